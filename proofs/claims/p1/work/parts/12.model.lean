abbrev kY_TrustDeskModel_fact : mj_Y := (⟨"TrustDeskModel", "fact", "(III)Z"⟩, prog_14_method_8_code, 4, (Option.some Jvm.ClassFile.FieldType.boolean))
theorem d_TrustDeskModel_fact_0 : decode kY_TrustDeskModel_fact.2.1 0 = .ok (.aload_n 0, 1) := by decide +kernel
theorem d_TrustDeskModel_fact_1 : decode kY_TrustDeskModel_fact.2.1 1 = .ok (.iconst 0, 1) := by decide +kernel
theorem d_TrustDeskModel_fact_2 : decode kY_TrustDeskModel_fact.2.1 2 = .ok (.putfield 1, 3) := by decide +kernel
theorem p_TrustDeskModel_1_13 : mj_fp "TrustDeskModel" 1 13 0 (kt_TrustDeskModel 0) false := ⟨kR_TrustDeskModel, kF_TrustDeskModel, 72, "TrustDeskModel", kt_TrustDeskModel, rfl, kg_13, by decide, (mj_in1 (List.mem_of_getElem? (i := 1390) (by decide +kernel)) rfl), Or.inl rfl, kto_TrustDeskModel, kn_TrustDeskModel, rfl, rfl, fun h => by cases h⟩
theorem d_TrustDeskModel_fact_5 : decode kY_TrustDeskModel_fact.2.1 5 = .ok (.iload_n 1, 1) := by decide +kernel
theorem d_TrustDeskModel_fact_6 : decode kY_TrustDeskModel_fact.2.1 6 = .ok (.i2l, 1) := by decide +kernel
theorem d_TrustDeskModel_fact_7 : decode kY_TrustDeskModel_fact.2.1 7 = .ok (.lconst 0, 1) := by decide +kernel
theorem d_TrustDeskModel_fact_8 : decode kY_TrustDeskModel_fact.2.1 8 = .ok (.ldc2_w 167, 3) := by decide +kernel
theorem k_TrustDeskModel_167 : Cond.constantLong "TrustDeskModel" 167 7 ∈ mj_T := (mj_in1 (List.mem_of_getElem? (i := 1611) (by decide +kernel)) rfl)
theorem d_TrustDeskModel_fact_11 : decode kY_TrustDeskModel_fact.2.1 11 = .ok (.invokestatic 169, 3) := by decide +kernel
abbrev kY_TrustDeskModel_within : mj_Y := (⟨"TrustDeskModel", "within", "(JJJ)Z"⟩, prog_14_method_2_code, 6, (Option.some Jvm.ClassFile.FieldType.boolean))
theorem lS_TrustDeskModel_169 : mj_lS "TrustDeskModel" 169 kY_TrustDeskModel_within 3 := ⟨⟨(mj_in1 (List.mem_of_getElem? (i := 1612) (by decide +kernel)) rfl), (mj_in1 (List.mem_of_getElem? (i := 10) (by decide +kernel)) rfl), (mj_in1 (List.mem_of_getElem? (i := 1614) (by decide +kernel)) rfl), by decide, rfl, by decide⟩, (mj_in1 (List.mem_of_getElem? (i := 1613) (by decide +kernel)) rfl)⟩
theorem d_TrustDeskModel_within_0 : decode kY_TrustDeskModel_within.2.1 0 = .ok (.lload_n 0, 1) := by decide +kernel
theorem d_TrustDeskModel_within_1 : decode kY_TrustDeskModel_within.2.1 1 = .ok (.lload_n 2, 1) := by decide +kernel
theorem d_TrustDeskModel_within_2 : decode kY_TrustDeskModel_within.2.1 2 = .ok (.lcmp, 1) := by decide +kernel
theorem d_TrustDeskModel_within_3 : decode kY_TrustDeskModel_within.2.1 3 = .ok (.ifCond .lt 14, 3) := by decide +kernel
theorem d_TrustDeskModel_within_17 : decode kY_TrustDeskModel_within.2.1 17 = .ok (.iconst 0, 1) := by decide +kernel
theorem d_TrustDeskModel_within_18 : decode kY_TrustDeskModel_within.2.1 18 = .ok (.ireturn, 1) := by decide +kernel
theorem d_TrustDeskModel_within_6 : decode kY_TrustDeskModel_within.2.1 6 = .ok (.lload_n 0, 1) := by decide +kernel
theorem d_TrustDeskModel_within_7 : decode kY_TrustDeskModel_within.2.1 7 = .ok (.lload 4, 2) := by decide +kernel
theorem d_TrustDeskModel_within_9 : decode kY_TrustDeskModel_within.2.1 9 = .ok (.lcmp, 1) := by decide +kernel
theorem d_TrustDeskModel_within_10 : decode kY_TrustDeskModel_within.2.1 10 = .ok (.ifCond .gt 7, 3) := by decide +kernel
theorem d_TrustDeskModel_within_13 : decode kY_TrustDeskModel_within.2.1 13 = .ok (.iconst 1, 1) := by decide +kernel
theorem d_TrustDeskModel_within_14 : decode kY_TrustDeskModel_within.2.1 14 = .ok (.goto 4, 3) := by decide +kernel
theorem c_TrustDeskModel_within_0 {g : mj_G} {l : Launch} {d nx : Nat} {M : mj_M} {x0 : Int64} : mj_Met g l kY_TrustDeskModel_within d [.long x0, .long 0, .long 7] M nx 0 0 (mj_B (0 ≤ x0.toInt ∧ x0.toInt ≤ 7) M nx) := by
  refine mj_enter (by decide) (Nat.le_of_ble_eq_true rfl) ?_
  refine mv_lload_n d_TrustDeskModel_within_0 rfl rfl ?_
  refine mv_lload_n d_TrustDeskModel_within_1 rfl rfl ?_
  refine mv_lltZ (tgt := 17) (a := x0.toInt) (b := 0) d_TrustDeskModel_within_2 d_TrustDeskModel_within_3 (by decide) rfl (by decide) (fun b1 => ?_) (fun b1 => ?_)
  · refine mv_iconst (v := 0) d_TrustDeskModel_within_17 (by decide) ?_
    exact mv_iret d_TrustDeskModel_within_18 rfl (by first | rfl | decide) ⟨Or.inr ⟨by omega, rfl⟩, rfl, rfl⟩
  · refine mv_lload_n d_TrustDeskModel_within_6 rfl rfl ?_
    refine mv_lload d_TrustDeskModel_within_7 rfl ?_
    refine mv_lgtZ (tgt := 17) (a := x0.toInt) (b := 7) d_TrustDeskModel_within_9 d_TrustDeskModel_within_10 (by decide) rfl (by decide) (fun b2 => ?_) (fun b2 => ?_)
    · refine mv_iconst (v := 0) d_TrustDeskModel_within_17 (by decide) ?_
      exact mv_iret d_TrustDeskModel_within_18 rfl (by first | rfl | decide) ⟨Or.inr ⟨by omega, rfl⟩, rfl, rfl⟩
    · refine mv_iconst (v := 1) d_TrustDeskModel_within_13 (by decide) ?_
      refine mv_goto (tgt := 18) d_TrustDeskModel_within_14 (by decide) ?_
      exact mv_iret d_TrustDeskModel_within_18 rfl (by first | rfl | decide) ⟨Or.inl ⟨by omega, rfl⟩, rfl, rfl⟩
theorem d_TrustDeskModel_fact_14 : decode kY_TrustDeskModel_fact.2.1 14 = .ok (.ifCond .eq 32, 3) := by decide +kernel
theorem d_TrustDeskModel_fact_17 : decode kY_TrustDeskModel_fact.2.1 17 = .ok (.iload_n 2, 1) := by decide +kernel
theorem d_TrustDeskModel_fact_18 : decode kY_TrustDeskModel_fact.2.1 18 = .ok (.invokestatic 173, 3) := by decide +kernel
abbrev kY_TrustDeskModel_isYear : mj_Y := (⟨"TrustDeskModel", "isYear", "(I)Z"⟩, prog_14_method_7_code, 1, (Option.some Jvm.ClassFile.FieldType.boolean))
theorem lS_TrustDeskModel_173 : mj_lS "TrustDeskModel" 173 kY_TrustDeskModel_isYear 1 := ⟨⟨(mj_in1 (List.mem_of_getElem? (i := 1615) (by decide +kernel)) rfl), (mj_in1 (List.mem_of_getElem? (i := 10) (by decide +kernel)) rfl), (mj_in1 (List.mem_of_getElem? (i := 1617) (by decide +kernel)) rfl), by decide, rfl, by decide⟩, (mj_in1 (List.mem_of_getElem? (i := 1616) (by decide +kernel)) rfl)⟩
theorem d_TrustDeskModel_isYear_0 : decode kY_TrustDeskModel_isYear.2.1 0 = .ok (.iload_n 0, 1) := by decide +kernel
theorem d_TrustDeskModel_isYear_1 : decode kY_TrustDeskModel_isYear.2.1 1 = .ok (.ifCond .lt 13, 3) := by decide +kernel
theorem d_TrustDeskModel_isYear_14 : decode kY_TrustDeskModel_isYear.2.1 14 = .ok (.iconst 0, 1) := by decide +kernel
theorem d_TrustDeskModel_isYear_15 : decode kY_TrustDeskModel_isYear.2.1 15 = .ok (.ireturn, 1) := by decide +kernel
theorem d_TrustDeskModel_isYear_4 : decode kY_TrustDeskModel_isYear.2.1 4 = .ok (.iload_n 0, 1) := by decide +kernel
theorem d_TrustDeskModel_isYear_5 : decode kY_TrustDeskModel_isYear.2.1 5 = .ok (.bipush 100, 2) := by decide +kernel
theorem d_TrustDeskModel_isYear_7 : decode kY_TrustDeskModel_isYear.2.1 7 = .ok (.if_icmp .gt 7, 3) := by decide +kernel
theorem d_TrustDeskModel_isYear_10 : decode kY_TrustDeskModel_isYear.2.1 10 = .ok (.iconst 1, 1) := by decide +kernel
theorem d_TrustDeskModel_isYear_11 : decode kY_TrustDeskModel_isYear.2.1 11 = .ok (.goto 4, 3) := by decide +kernel
theorem c_TrustDeskModel_isYear_0 {g : mj_G} {l : Launch} {d nx : Nat} {M : mj_M} {x0 : Int32} : mj_Met g l kY_TrustDeskModel_isYear d [.int x0] M nx 0 0 (mj_B (0 ≤ x0.toInt ∧ x0.toInt ≤ 100) M nx) := by
  refine mj_enter (by decide) (Nat.le_of_ble_eq_true rfl) ?_
  refine mv_iload_n d_TrustDeskModel_isYear_0 rfl rfl ?_
  refine mv_if_ltZ (tgt := 14) (a := x0.toInt) d_TrustDeskModel_isYear_1 (by decide) rfl (fun b1 => ?_) (fun b1 => ?_)
  · refine mv_iconst (v := 0) d_TrustDeskModel_isYear_14 (by decide) ?_
    exact mv_iret d_TrustDeskModel_isYear_15 rfl (by first | rfl | decide) ⟨Or.inr ⟨by omega, rfl⟩, rfl, rfl⟩
  · refine mv_iload_n d_TrustDeskModel_isYear_4 rfl rfl ?_
    refine mv_bipush (v := 100) d_TrustDeskModel_isYear_5 (by decide) ?_
    refine mv_icmp_gtZ (tgt := 14) (a := x0.toInt) (b := 100) d_TrustDeskModel_isYear_7 (by decide) rfl (by decide) (fun b2 => ?_) (fun b2 => ?_)
    · refine mv_iconst (v := 0) d_TrustDeskModel_isYear_14 (by decide) ?_
      exact mv_iret d_TrustDeskModel_isYear_15 rfl (by first | rfl | decide) ⟨Or.inr ⟨by omega, rfl⟩, rfl, rfl⟩
    · refine mv_iconst (v := 1) d_TrustDeskModel_isYear_10 (by decide) ?_
      refine mv_goto (tgt := 15) d_TrustDeskModel_isYear_11 (by decide) ?_
      exact mv_iret d_TrustDeskModel_isYear_15 rfl (by first | rfl | decide) ⟨Or.inl ⟨by omega, rfl⟩, rfl, rfl⟩
theorem d_TrustDeskModel_fact_21 : decode kY_TrustDeskModel_fact.2.1 21 = .ok (.ifCond .eq 25, 3) := by decide +kernel
theorem d_TrustDeskModel_fact_24 : decode kY_TrustDeskModel_fact.2.1 24 = .ok (.iload_n 3, 1) := by decide +kernel
theorem d_TrustDeskModel_fact_25 : decode kY_TrustDeskModel_fact.2.1 25 = .ok (.i2l, 1) := by decide +kernel
theorem d_TrustDeskModel_fact_26 : decode kY_TrustDeskModel_fact.2.1 26 = .ok (.lconst 0, 1) := by decide +kernel
theorem d_TrustDeskModel_fact_27 : decode kY_TrustDeskModel_fact.2.1 27 = .ok (.ldc2_w 177, 3) := by decide +kernel
theorem k_TrustDeskModel_177 : Cond.constantLong "TrustDeskModel" 177 9999 ∈ mj_T := (mj_in1 (List.mem_of_getElem? (i := 1618) (by decide +kernel)) rfl)
theorem d_TrustDeskModel_fact_30 : decode kY_TrustDeskModel_fact.2.1 30 = .ok (.invokestatic 169, 3) := by decide +kernel
theorem c_TrustDeskModel_within_1 {g : mj_G} {l : Launch} {d nx : Nat} {M : mj_M} {x0 : Int64} : mj_Met g l kY_TrustDeskModel_within d [.long x0, .long 0, .long 9999] M nx 0 0 (mj_B (0 ≤ x0.toInt ∧ x0.toInt ≤ 9999) M nx) := by
  refine mj_enter (by decide) (Nat.le_of_ble_eq_true rfl) ?_
  refine mv_lload_n d_TrustDeskModel_within_0 rfl rfl ?_
  refine mv_lload_n d_TrustDeskModel_within_1 rfl rfl ?_
  refine mv_lltZ (tgt := 17) (a := x0.toInt) (b := 0) d_TrustDeskModel_within_2 d_TrustDeskModel_within_3 (by decide) rfl (by decide) (fun b1 => ?_) (fun b1 => ?_)
  · refine mv_iconst (v := 0) d_TrustDeskModel_within_17 (by decide) ?_
    exact mv_iret d_TrustDeskModel_within_18 rfl (by first | rfl | decide) ⟨Or.inr ⟨by omega, rfl⟩, rfl, rfl⟩
  · refine mv_lload_n d_TrustDeskModel_within_6 rfl rfl ?_
    refine mv_lload d_TrustDeskModel_within_7 rfl ?_
    refine mv_lgtZ (tgt := 17) (a := x0.toInt) (b := 9999) d_TrustDeskModel_within_9 d_TrustDeskModel_within_10 (by decide) rfl (by decide) (fun b2 => ?_) (fun b2 => ?_)
    · refine mv_iconst (v := 0) d_TrustDeskModel_within_17 (by decide) ?_
      exact mv_iret d_TrustDeskModel_within_18 rfl (by first | rfl | decide) ⟨Or.inr ⟨by omega, rfl⟩, rfl, rfl⟩
    · refine mv_iconst (v := 1) d_TrustDeskModel_within_13 (by decide) ?_
      refine mv_goto (tgt := 18) d_TrustDeskModel_within_14 (by decide) ?_
      exact mv_iret d_TrustDeskModel_within_18 rfl (by first | rfl | decide) ⟨Or.inl ⟨by omega, rfl⟩, rfl, rfl⟩
theorem d_TrustDeskModel_fact_33 : decode kY_TrustDeskModel_fact.2.1 33 = .ok (.ifCond .eq 13, 3) := by decide +kernel
theorem d_TrustDeskModel_fact_36 : decode kY_TrustDeskModel_fact.2.1 36 = .ok (.aload_n 0, 1) := by decide +kernel
theorem d_TrustDeskModel_fact_37 : decode kY_TrustDeskModel_fact.2.1 37 = .ok (.getfield 179, 3) := by decide +kernel
theorem f_TrustDeskModel_179_13 : mj_fl "TrustDeskModel" 179 13 2 := ⟨kR_TrustDeskModel, kF_TrustDeskModel, 72, "TrustDeskModel", rfl, kg_13, by decide, (mj_in1 (List.mem_of_getElem? (i := 1392) (by decide +kernel)) rfl), Or.inl rfl⟩
theorem d_TrustDeskModel_fact_40 : decode kY_TrustDeskModel_fact.2.1 40 = .ok (.sipush 300, 3) := by decide +kernel
theorem d_TrustDeskModel_fact_43 : decode kY_TrustDeskModel_fact.2.1 43 = .ok (.if_icmp .ne 5, 3) := by decide +kernel
theorem d_TrustDeskModel_fact_48 : decode kY_TrustDeskModel_fact.2.1 48 = .ok (.aload_n 0, 1) := by decide +kernel
theorem d_TrustDeskModel_fact_49 : decode kY_TrustDeskModel_fact.2.1 49 = .ok (.getfield 13, 3) := by decide +kernel
theorem f_TrustDeskModel_13_13 : mj_fl "TrustDeskModel" 13 13 3 := ⟨kR_TrustDeskModel, kF_TrustDeskModel, 72, "TrustDeskModel", rfl, kg_13, by decide, (mj_in1 (List.mem_of_getElem? (i := 1393) (by decide +kernel)) rfl), Or.inl rfl⟩
theorem d_TrustDeskModel_fact_52 : decode kY_TrustDeskModel_fact.2.1 52 = .ok (.iconst 4, 1) := by decide +kernel
theorem d_TrustDeskModel_fact_53 : decode kY_TrustDeskModel_fact.2.1 53 = .ok (.aload_n 0, 1) := by decide +kernel
theorem d_TrustDeskModel_fact_54 : decode kY_TrustDeskModel_fact.2.1 54 = .ok (.getfield 179, 3) := by decide +kernel
theorem d_TrustDeskModel_fact_57 : decode kY_TrustDeskModel_fact.2.1 57 = .ok (.imul, 1) := by decide +kernel
theorem d_TrustDeskModel_fact_58 : decode kY_TrustDeskModel_fact.2.1 58 = .ok (.iload_n 1, 1) := by decide +kernel
theorem d_TrustDeskModel_fact_59 : decode kY_TrustDeskModel_fact.2.1 59 = .ok (.iastore, 1) := by decide +kernel
theorem d_TrustDeskModel_fact_60 : decode kY_TrustDeskModel_fact.2.1 60 = .ok (.aload_n 0, 1) := by decide +kernel
theorem d_TrustDeskModel_fact_61 : decode kY_TrustDeskModel_fact.2.1 61 = .ok (.getfield 13, 3) := by decide +kernel
theorem d_TrustDeskModel_fact_64 : decode kY_TrustDeskModel_fact.2.1 64 = .ok (.iconst 4, 1) := by decide +kernel
theorem d_TrustDeskModel_fact_65 : decode kY_TrustDeskModel_fact.2.1 65 = .ok (.aload_n 0, 1) := by decide +kernel
theorem d_TrustDeskModel_fact_66 : decode kY_TrustDeskModel_fact.2.1 66 = .ok (.getfield 179, 3) := by decide +kernel
theorem d_TrustDeskModel_fact_69 : decode kY_TrustDeskModel_fact.2.1 69 = .ok (.imul, 1) := by decide +kernel
theorem d_TrustDeskModel_fact_70 : decode kY_TrustDeskModel_fact.2.1 70 = .ok (.iconst 1, 1) := by decide +kernel
theorem d_TrustDeskModel_fact_71 : decode kY_TrustDeskModel_fact.2.1 71 = .ok (.iadd, 1) := by decide +kernel
theorem d_TrustDeskModel_fact_72 : decode kY_TrustDeskModel_fact.2.1 72 = .ok (.iload_n 2, 1) := by decide +kernel
theorem d_TrustDeskModel_fact_73 : decode kY_TrustDeskModel_fact.2.1 73 = .ok (.iastore, 1) := by decide +kernel
theorem d_TrustDeskModel_fact_74 : decode kY_TrustDeskModel_fact.2.1 74 = .ok (.aload_n 0, 1) := by decide +kernel
theorem d_TrustDeskModel_fact_75 : decode kY_TrustDeskModel_fact.2.1 75 = .ok (.getfield 13, 3) := by decide +kernel
theorem d_TrustDeskModel_fact_78 : decode kY_TrustDeskModel_fact.2.1 78 = .ok (.iconst 4, 1) := by decide +kernel
theorem d_TrustDeskModel_fact_79 : decode kY_TrustDeskModel_fact.2.1 79 = .ok (.aload_n 0, 1) := by decide +kernel
theorem d_TrustDeskModel_fact_80 : decode kY_TrustDeskModel_fact.2.1 80 = .ok (.getfield 179, 3) := by decide +kernel
theorem d_TrustDeskModel_fact_83 : decode kY_TrustDeskModel_fact.2.1 83 = .ok (.imul, 1) := by decide +kernel
theorem d_TrustDeskModel_fact_84 : decode kY_TrustDeskModel_fact.2.1 84 = .ok (.iconst 2, 1) := by decide +kernel
theorem d_TrustDeskModel_fact_85 : decode kY_TrustDeskModel_fact.2.1 85 = .ok (.iadd, 1) := by decide +kernel
theorem d_TrustDeskModel_fact_86 : decode kY_TrustDeskModel_fact.2.1 86 = .ok (.iload_n 3, 1) := by decide +kernel
theorem d_TrustDeskModel_fact_87 : decode kY_TrustDeskModel_fact.2.1 87 = .ok (.iastore, 1) := by decide +kernel
theorem d_TrustDeskModel_fact_88 : decode kY_TrustDeskModel_fact.2.1 88 = .ok (.aload_n 0, 1) := by decide +kernel
theorem d_TrustDeskModel_fact_89 : decode kY_TrustDeskModel_fact.2.1 89 = .ok (.getfield 13, 3) := by decide +kernel
theorem d_TrustDeskModel_fact_92 : decode kY_TrustDeskModel_fact.2.1 92 = .ok (.iconst 4, 1) := by decide +kernel
theorem d_TrustDeskModel_fact_93 : decode kY_TrustDeskModel_fact.2.1 93 = .ok (.aload_n 0, 1) := by decide +kernel
theorem d_TrustDeskModel_fact_94 : decode kY_TrustDeskModel_fact.2.1 94 = .ok (.getfield 179, 3) := by decide +kernel
theorem d_TrustDeskModel_fact_97 : decode kY_TrustDeskModel_fact.2.1 97 = .ok (.imul, 1) := by decide +kernel
theorem d_TrustDeskModel_fact_98 : decode kY_TrustDeskModel_fact.2.1 98 = .ok (.iconst 3, 1) := by decide +kernel
theorem d_TrustDeskModel_fact_99 : decode kY_TrustDeskModel_fact.2.1 99 = .ok (.iadd, 1) := by decide +kernel
theorem d_TrustDeskModel_fact_100 : decode kY_TrustDeskModel_fact.2.1 100 = .ok (.aload_n 0, 1) := by decide +kernel
theorem d_TrustDeskModel_fact_101 : decode kY_TrustDeskModel_fact.2.1 101 = .ok (.getfield 164, 3) := by decide +kernel
theorem f_TrustDeskModel_164_13 : mj_fl "TrustDeskModel" 164 13 1 := ⟨kR_TrustDeskModel, kF_TrustDeskModel, 72, "TrustDeskModel", rfl, kg_13, by decide, (mj_in1 (List.mem_of_getElem? (i := 1391) (by decide +kernel)) rfl), Or.inl rfl⟩
theorem d_TrustDeskModel_fact_104 : decode kY_TrustDeskModel_fact.2.1 104 = .ok (.iastore, 1) := by decide +kernel
theorem d_TrustDeskModel_fact_105 : decode kY_TrustDeskModel_fact.2.1 105 = .ok (.aload_n 0, 1) := by decide +kernel
theorem d_TrustDeskModel_fact_106 : decode kY_TrustDeskModel_fact.2.1 106 = .ok (.dup, 1) := by decide +kernel
theorem d_TrustDeskModel_fact_107 : decode kY_TrustDeskModel_fact.2.1 107 = .ok (.getfield 179, 3) := by decide +kernel
theorem d_TrustDeskModel_fact_110 : decode kY_TrustDeskModel_fact.2.1 110 = .ok (.iconst 1, 1) := by decide +kernel
theorem d_TrustDeskModel_fact_111 : decode kY_TrustDeskModel_fact.2.1 111 = .ok (.iadd, 1) := by decide +kernel
theorem d_TrustDeskModel_fact_112 : decode kY_TrustDeskModel_fact.2.1 112 = .ok (.putfield 179, 3) := by decide +kernel
theorem p_TrustDeskModel_179_13 : mj_fp "TrustDeskModel" 179 13 2 (kt_TrustDeskModel 2) false := ⟨kR_TrustDeskModel, kF_TrustDeskModel, 72, "TrustDeskModel", kt_TrustDeskModel, rfl, kg_13, by decide, (mj_in1 (List.mem_of_getElem? (i := 1392) (by decide +kernel)) rfl), Or.inl rfl, kto_TrustDeskModel, kn_TrustDeskModel, rfl, rfl, fun h => by cases h⟩
theorem d_TrustDeskModel_fact_115 : decode kY_TrustDeskModel_fact.2.1 115 = .ok (.iconst 1, 1) := by decide +kernel
theorem d_TrustDeskModel_fact_116 : decode kY_TrustDeskModel_fact.2.1 116 = .ok (.ireturn, 1) := by decide +kernel
theorem d_TrustDeskModel_fact_46 : decode kY_TrustDeskModel_fact.2.1 46 = .ok (.iconst 0, 1) := by decide +kernel
theorem d_TrustDeskModel_fact_47 : decode kY_TrustDeskModel_fact.2.1 47 = .ok (.ireturn, 1) := by decide +kernel
theorem c_TrustDeskModel_fact_0 {g : mj_G} {l : Launch} {d nx : Nat} {M : mj_M} {x1 : Int32} {x2 : Int32} {x3 : Int32} (h_99 : M 99 = some (.inr (13, [.int 0, .int 0, .int 0, .ref 100, .ref 101, .ref 102, .ref 103, .ref 104, .ref 105, .ref 106, .ref 107, .ref 108, .ref 109, .ref 110, .int 0, .int 0, .int 0, .int 0, .int 0, .int 0, .int 0, .int (-1), .int 0, .int 0, .int 0, .ref 111, .ref 112, .int 0, .ref 113, .ref 114, .ref 115, .int 0, .int 0, .ref 116, .ref 117, .ref 118, .ref 119, .ref 120, .ref 121, .ref 122, .ref 123, .ref 124, .ref 125, .ref 126, .ref 127, .ref 128, .ref 129, .ref 130, .ref 131, .int 0, .ref 132, .int 0, .ref 133, .int 0, .ref 134, .ref 135, .ref 136, .ref 137, .ref 138, .ref 139, .ref 140, .ref 141, .ref 142, .ref 143, .ref 144, .ref 145, .ref 146, .int 0, .long 0, .int 0, .int 0, .ref 147]))) (h_100 : M 100 = some (.inl (0, 1200, .inl (fun _ => 0)))) : mj_Met g l kY_TrustDeskModel_fact (d + 1) [.ref 99, .int x1, .int x2, .int x3] M nx 0 0 (mj_KP (some (.int (e_fact x1 x2 x3))) M 0 0) := by
  refine mj_enter (by decide) (Nat.le_of_ble_eq_true rfl) ?_
  refine mv_aload_n d_TrustDeskModel_fact_0 rfl rfl ?_
  refine mv_iconst (v := 0) d_TrustDeskModel_fact_1 (by decide) ?_
  refine mv_put (fs' := [.int 0, .int 0, .int 0, .ref 100, .ref 101, .ref 102, .ref 103, .ref 104, .ref 105, .ref 106, .ref 107, .ref 108, .ref 109, .ref 110, .int 0, .int 0, .int 0, .int 0, .int 0, .int 0, .int 0, .int (-1), .int 0, .int 0, .int 0, .ref 111, .ref 112, .int 0, .ref 113, .ref 114, .ref 115, .int 0, .int 0, .ref 116, .ref 117, .ref 118, .ref 119, .ref 120, .ref 121, .ref 122, .ref 123, .ref 124, .ref 125, .ref 126, .ref 127, .ref 128, .ref 129, .ref 130, .ref 131, .int 0, .ref 132, .int 0, .ref 133, .int 0, .ref 134, .ref 135, .ref 136, .ref 137, .ref 138, .ref 139, .ref 140, .ref 141, .ref 142, .ref 143, .ref 144, .ref 145, .ref 146, .int 0, .long 0, .int 0, .int 0, .ref 147]) d_TrustDeskModel_fact_2 p_TrustDeskModel_1_13 h_99 (Nat.le_of_ble_eq_true rfl) rfl rfl rfl ?_
  refine mv_iload_n d_TrustDeskModel_fact_5 rfl rfl ?_
  refine mv_i2l (v := x1.toInt64) d_TrustDeskModel_fact_6 rfl ?_
  refine mv_lconst (v := 0) d_TrustDeskModel_fact_7 (by decide) ?_
  refine mv_ldc2 d_TrustDeskModel_fact_8 k_TrustDeskModel_167 ?_
  refine mv_callS_b (kc' := 0) (ks' := 0) [.long x1.toInt64, .long 0, .long 7] [.long 7, .long 0, .long x1.toInt64] d_TrustDeskModel_fact_11 lS_TrustDeskModel_169 (c_TrustDeskModel_within_0 (d := d) (x0 := x1.toInt64)) rfl (Nat.le_of_ble_eq_true rfl) (Nat.le_of_ble_eq_true rfl) (Nat.le_of_ble_eq_true rfl) rfl (fun b1 => ?_) (fun b1 => ?_)
  · rw [mz_wide] at b1
    refine mv_if_eq_f (tgt := 46) d_TrustDeskModel_fact_14 (by decide) (by decide) ?_
    refine mv_iload_n d_TrustDeskModel_fact_17 rfl rfl ?_
    refine mv_callS_b (kc' := 0) (ks' := 0) [.int x2] [.int x2] d_TrustDeskModel_fact_18 lS_TrustDeskModel_173 (c_TrustDeskModel_isYear_0 (d := d) (x0 := x2)) rfl (Nat.le_of_ble_eq_true rfl) (Nat.le_of_ble_eq_true rfl) (Nat.le_of_ble_eq_true rfl) rfl (fun b2 => ?_) (fun b2 => ?_)
    · refine mv_if_eq_f (tgt := 46) d_TrustDeskModel_fact_21 (by decide) (by decide) ?_
      refine mv_iload_n d_TrustDeskModel_fact_24 rfl rfl ?_
      refine mv_i2l (v := x3.toInt64) d_TrustDeskModel_fact_25 rfl ?_
      refine mv_lconst (v := 0) d_TrustDeskModel_fact_26 (by decide) ?_
      refine mv_ldc2 d_TrustDeskModel_fact_27 k_TrustDeskModel_177 ?_
      refine mv_callS_b (kc' := 0) (ks' := 0) [.long x3.toInt64, .long 0, .long 9999] [.long 9999, .long 0, .long x3.toInt64] d_TrustDeskModel_fact_30 lS_TrustDeskModel_169 (c_TrustDeskModel_within_1 (d := d) (x0 := x3.toInt64)) rfl (Nat.le_of_ble_eq_true rfl) (Nat.le_of_ble_eq_true rfl) (Nat.le_of_ble_eq_true rfl) rfl (fun b3 => ?_) (fun b3 => ?_)
      · rw [mz_wide] at b3
        refine mv_if_eq_f (tgt := 46) d_TrustDeskModel_fact_33 (by decide) (by decide) ?_
        refine mv_aload_n d_TrustDeskModel_fact_36 rfl rfl ?_
        refine mv_get d_TrustDeskModel_fact_37 f_TrustDeskModel_179_13 (mj_up_self _ _ _) rfl ?_
        refine mv_sipush (v := 300) d_TrustDeskModel_fact_40 (by decide) ?_
        refine mv_icmp_ne_t (tgt := 48) d_TrustDeskModel_fact_43 (by decide) (by decide) ?_
        refine mv_aload_n d_TrustDeskModel_fact_48 rfl rfl ?_
        refine mv_get d_TrustDeskModel_fact_49 f_TrustDeskModel_13_13 (mj_up_self _ _ _) rfl ?_
        refine mv_iconst (v := 4) d_TrustDeskModel_fact_52 (by decide) ?_
        refine mv_aload_n d_TrustDeskModel_fact_53 rfl rfl ?_
        refine mv_get d_TrustDeskModel_fact_54 f_TrustDeskModel_179_13 (mj_up_self _ _ _) rfl ?_
        refine mv_imulv (v := 0) d_TrustDeskModel_fact_57 (by decide) ?_
        refine mv_iload_n d_TrustDeskModel_fact_58 rfl rfl ?_
        refine mv_iast (f' := (upd (fun _ => 0) 0 x1)) d_TrustDeskModel_fact_59 ((mj_up_ne _ _ (Nat.ne_of_beq_eq_false rfl)).trans h_100) (by unfold vp_in; decide) rfl ?_
        refine mv_aload_n d_TrustDeskModel_fact_60 rfl rfl ?_
        refine mv_get d_TrustDeskModel_fact_61 f_TrustDeskModel_13_13 ((mj_up_ne _ _ (Nat.ne_of_beq_eq_false rfl)).trans (mj_up_self _ _ _)) rfl ?_
        refine mv_iconst (v := 4) d_TrustDeskModel_fact_64 (by decide) ?_
        refine mv_aload_n d_TrustDeskModel_fact_65 rfl rfl ?_
        refine mv_get d_TrustDeskModel_fact_66 f_TrustDeskModel_179_13 ((mj_up_ne _ _ (Nat.ne_of_beq_eq_false rfl)).trans (mj_up_self _ _ _)) rfl ?_
        refine mv_imulv (v := 0) d_TrustDeskModel_fact_69 (by decide) ?_
        refine mv_iconst (v := 1) d_TrustDeskModel_fact_70 (by decide) ?_
        refine mv_iaddv (v := 1) d_TrustDeskModel_fact_71 (by decide) ?_
        refine mv_iload_n d_TrustDeskModel_fact_72 rfl rfl ?_
        refine mv_iast (f' := (upd (upd (fun _ => 0) 0 x1) 1 x2)) d_TrustDeskModel_fact_73 (mj_up_self _ _ _) (by unfold vp_in; decide) rfl ?_
        refine mv_aload_n d_TrustDeskModel_fact_74 rfl rfl ?_
        refine mv_get d_TrustDeskModel_fact_75 f_TrustDeskModel_13_13 ((mj_up_ne _ _ (Nat.ne_of_beq_eq_false rfl)).trans ((mj_up_ne _ _ (Nat.ne_of_beq_eq_false rfl)).trans (mj_up_self _ _ _))) rfl ?_
        refine mv_iconst (v := 4) d_TrustDeskModel_fact_78 (by decide) ?_
        refine mv_aload_n d_TrustDeskModel_fact_79 rfl rfl ?_
        refine mv_get d_TrustDeskModel_fact_80 f_TrustDeskModel_179_13 ((mj_up_ne _ _ (Nat.ne_of_beq_eq_false rfl)).trans ((mj_up_ne _ _ (Nat.ne_of_beq_eq_false rfl)).trans (mj_up_self _ _ _))) rfl ?_
        refine mv_imulv (v := 0) d_TrustDeskModel_fact_83 (by decide) ?_
        refine mv_iconst (v := 2) d_TrustDeskModel_fact_84 (by decide) ?_
        refine mv_iaddv (v := 2) d_TrustDeskModel_fact_85 (by decide) ?_
        refine mv_iload_n d_TrustDeskModel_fact_86 rfl rfl ?_
        refine mv_iast (f' := (upd (upd (upd (fun _ => 0) 0 x1) 1 x2) 2 x3)) d_TrustDeskModel_fact_87 (mj_up_self _ _ _) (by unfold vp_in; decide) rfl ?_
        refine mv_aload_n d_TrustDeskModel_fact_88 rfl rfl ?_
        refine mv_get d_TrustDeskModel_fact_89 f_TrustDeskModel_13_13 ((mj_up_ne _ _ (Nat.ne_of_beq_eq_false rfl)).trans ((mj_up_ne _ _ (Nat.ne_of_beq_eq_false rfl)).trans ((mj_up_ne _ _ (Nat.ne_of_beq_eq_false rfl)).trans (mj_up_self _ _ _)))) rfl ?_
        refine mv_iconst (v := 4) d_TrustDeskModel_fact_92 (by decide) ?_
        refine mv_aload_n d_TrustDeskModel_fact_93 rfl rfl ?_
        refine mv_get d_TrustDeskModel_fact_94 f_TrustDeskModel_179_13 ((mj_up_ne _ _ (Nat.ne_of_beq_eq_false rfl)).trans ((mj_up_ne _ _ (Nat.ne_of_beq_eq_false rfl)).trans ((mj_up_ne _ _ (Nat.ne_of_beq_eq_false rfl)).trans (mj_up_self _ _ _)))) rfl ?_
        refine mv_imulv (v := 0) d_TrustDeskModel_fact_97 (by decide) ?_
        refine mv_iconst (v := 3) d_TrustDeskModel_fact_98 (by decide) ?_
        refine mv_iaddv (v := 3) d_TrustDeskModel_fact_99 (by decide) ?_
        refine mv_aload_n d_TrustDeskModel_fact_100 rfl rfl ?_
        refine mv_get d_TrustDeskModel_fact_101 f_TrustDeskModel_164_13 ((mj_up_ne _ _ (Nat.ne_of_beq_eq_false rfl)).trans ((mj_up_ne _ _ (Nat.ne_of_beq_eq_false rfl)).trans ((mj_up_ne _ _ (Nat.ne_of_beq_eq_false rfl)).trans (mj_up_self _ _ _)))) rfl ?_
        refine mv_iast (f' := (upd (upd (upd (upd (fun _ => 0) 0 x1) 1 x2) 2 x3) 3 0)) d_TrustDeskModel_fact_104 (mj_up_self _ _ _) (by unfold vp_in; decide) rfl ?_
        refine mv_aload_n d_TrustDeskModel_fact_105 rfl rfl ?_
        refine mv_dup d_TrustDeskModel_fact_106 rfl ?_
        refine mv_get d_TrustDeskModel_fact_107 f_TrustDeskModel_179_13 ((mj_up_ne _ _ (Nat.ne_of_beq_eq_false rfl)).trans ((mj_up_ne _ _ (Nat.ne_of_beq_eq_false rfl)).trans ((mj_up_ne _ _ (Nat.ne_of_beq_eq_false rfl)).trans ((mj_up_ne _ _ (Nat.ne_of_beq_eq_false rfl)).trans (mj_up_self _ _ _))))) rfl ?_
        refine mv_iconst (v := 1) d_TrustDeskModel_fact_110 (by decide) ?_
        refine mv_iaddv (v := 1) d_TrustDeskModel_fact_111 (by decide) ?_
        refine mv_put (fs' := [.int 0, .int 0, .int 1, .ref 100, .ref 101, .ref 102, .ref 103, .ref 104, .ref 105, .ref 106, .ref 107, .ref 108, .ref 109, .ref 110, .int 0, .int 0, .int 0, .int 0, .int 0, .int 0, .int 0, .int (-1), .int 0, .int 0, .int 0, .ref 111, .ref 112, .int 0, .ref 113, .ref 114, .ref 115, .int 0, .int 0, .ref 116, .ref 117, .ref 118, .ref 119, .ref 120, .ref 121, .ref 122, .ref 123, .ref 124, .ref 125, .ref 126, .ref 127, .ref 128, .ref 129, .ref 130, .ref 131, .int 0, .ref 132, .int 0, .ref 133, .int 0, .ref 134, .ref 135, .ref 136, .ref 137, .ref 138, .ref 139, .ref 140, .ref 141, .ref 142, .ref 143, .ref 144, .ref 145, .ref 146, .int 0, .long 0, .int 0, .int 0, .ref 147]) d_TrustDeskModel_fact_112 p_TrustDeskModel_179_13 ((mj_up_ne _ _ (Nat.ne_of_beq_eq_false rfl)).trans ((mj_up_ne _ _ (Nat.ne_of_beq_eq_false rfl)).trans ((mj_up_ne _ _ (Nat.ne_of_beq_eq_false rfl)).trans ((mj_up_ne _ _ (Nat.ne_of_beq_eq_false rfl)).trans (mj_up_self _ _ _))))) (Nat.le_of_ble_eq_true rfl) rfl rfl rfl ?_
        refine mv_iconst (v := 1) d_TrustDeskModel_fact_115 (by decide) ?_
        exact mv_iret d_TrustDeskModel_fact_116 rfl (by first | rfl | decide) ⟨(by unfold e_fact; first | rw [if_pos (by omega)] | rw [if_neg (by omega)]), fun a ha1 ha2 => (mj_up_ne _ _ (show a ≠ 99 by omega)).trans ((mj_up_ne _ _ (show a ≠ 100 by omega)).trans ((mj_up_ne _ _ (show a ≠ 100 by omega)).trans ((mj_up_ne _ _ (show a ≠ 100 by omega)).trans ((mj_up_ne _ _ (show a ≠ 100 by omega)).trans ((mj_up_ne _ _ (show a ≠ 99 by omega)).trans (rfl))))))⟩
      · rw [mz_wide] at b3
        refine mv_if_eq_t (tgt := 46) d_TrustDeskModel_fact_33 (by decide) (by decide) ?_
        refine mv_iconst (v := 0) d_TrustDeskModel_fact_46 (by decide) ?_
        exact mv_iret d_TrustDeskModel_fact_47 rfl (by first | rfl | decide) ⟨(by unfold e_fact; first | rw [if_pos (by omega)] | rw [if_neg (by omega)]), fun a ha1 ha2 => (mj_up_ne _ _ (show a ≠ 99 by omega)).trans (rfl)⟩
    · refine mv_if_eq_t (tgt := 46) d_TrustDeskModel_fact_21 (by decide) (by decide) ?_
      refine mv_iconst (v := 0) d_TrustDeskModel_fact_46 (by decide) ?_
      exact mv_iret d_TrustDeskModel_fact_47 rfl (by first | rfl | decide) ⟨(by unfold e_fact; first | rw [if_pos (by omega)] | rw [if_neg (by omega)]), fun a ha1 ha2 => (mj_up_ne _ _ (show a ≠ 99 by omega)).trans (rfl)⟩
  · rw [mz_wide] at b1
    refine mv_if_eq_t (tgt := 46) d_TrustDeskModel_fact_14 (by decide) (by decide) ?_
    refine mv_iconst (v := 0) d_TrustDeskModel_fact_46 (by decide) ?_
    exact mv_iret d_TrustDeskModel_fact_47 rfl (by first | rfl | decide) ⟨(by unfold e_fact; first | rw [if_pos (by omega)] | rw [if_neg (by omega)]), fun a ha1 ha2 => (mj_up_ne _ _ (show a ≠ 99 by omega)).trans (rfl)⟩
abbrev kY_TrustDeskModel_factOf : mj_Y := (⟨"TrustDeskModel", "factOf", "(III)I"⟩, prog_14_method_10_code, 4, (Option.some Jvm.ClassFile.FieldType.int))
theorem d_TrustDeskModel_factOf_0 : decode kY_TrustDeskModel_factOf.2.1 0 = .ok (.aload_n 0, 1) := by decide +kernel
theorem d_TrustDeskModel_factOf_1 : decode kY_TrustDeskModel_factOf.2.1 1 = .ok (.iconst 0, 1) := by decide +kernel
theorem d_TrustDeskModel_factOf_2 : decode kY_TrustDeskModel_factOf.2.1 2 = .ok (.putfield 1, 3) := by decide +kernel
theorem d_TrustDeskModel_factOf_5 : decode kY_TrustDeskModel_factOf.2.1 5 = .ok (.iload_n 1, 1) := by decide +kernel
theorem d_TrustDeskModel_factOf_6 : decode kY_TrustDeskModel_factOf.2.1 6 = .ok (.i2l, 1) := by decide +kernel
theorem d_TrustDeskModel_factOf_7 : decode kY_TrustDeskModel_factOf.2.1 7 = .ok (.lconst 0, 1) := by decide +kernel
theorem d_TrustDeskModel_factOf_8 : decode kY_TrustDeskModel_factOf.2.1 8 = .ok (.ldc2_w 167, 3) := by decide +kernel
theorem d_TrustDeskModel_factOf_11 : decode kY_TrustDeskModel_factOf.2.1 11 = .ok (.invokestatic 169, 3) := by decide +kernel
theorem d_TrustDeskModel_factOf_14 : decode kY_TrustDeskModel_factOf.2.1 14 = .ok (.ifCond .eq 28, 3) := by decide +kernel
theorem d_TrustDeskModel_factOf_17 : decode kY_TrustDeskModel_factOf.2.1 17 = .ok (.iload_n 2, 1) := by decide +kernel
theorem d_TrustDeskModel_factOf_18 : decode kY_TrustDeskModel_factOf.2.1 18 = .ok (.invokestatic 173, 3) := by decide +kernel
theorem d_TrustDeskModel_factOf_21 : decode kY_TrustDeskModel_factOf.2.1 21 = .ok (.ifCond .eq 21, 3) := by decide +kernel
theorem d_TrustDeskModel_factOf_24 : decode kY_TrustDeskModel_factOf.2.1 24 = .ok (.aload_n 0, 1) := by decide +kernel
theorem d_TrustDeskModel_factOf_25 : decode kY_TrustDeskModel_factOf.2.1 25 = .ok (.iload_n 3, 1) := by decide +kernel
theorem d_TrustDeskModel_factOf_26 : decode kY_TrustDeskModel_factOf.2.1 26 = .ok (.invokevirtual 182, 3) := by decide +kernel
abbrev kY_TrustDeskModel_isKnown : mj_Y := (⟨"TrustDeskModel", "isKnown", "(I)Z"⟩, prog_14_method_6_code, 2, (Option.some Jvm.ClassFile.FieldType.boolean))
theorem lV_TrustDeskModel_182 : mj_lV "TrustDeskModel" 182 kY_TrustDeskModel_isKnown 1 := ⟨⟨(mj_in1 (List.mem_of_getElem? (i := 1623) (by decide +kernel)) rfl), (mj_in1 (List.mem_of_getElem? (i := 10) (by decide +kernel)) rfl), (mj_in1 (List.mem_of_getElem? (i := 1626) (by decide +kernel)) rfl), by decide, rfl, by decide⟩, (mj_in1 (List.mem_of_getElem? (i := 1625) (by decide +kernel)) rfl), (mj_in (List.mem_append_left _ (List.mem_of_getElem? (i := 78) (by decide +kernel))) rfl)⟩
theorem d_TrustDeskModel_isKnown_0 : decode kY_TrustDeskModel_isKnown.2.1 0 = .ok (.iload_n 1, 1) := by decide +kernel
theorem d_TrustDeskModel_isKnown_1 : decode kY_TrustDeskModel_isKnown.2.1 1 = .ok (.ifCond .lt 15, 3) := by decide +kernel
theorem d_TrustDeskModel_isKnown_16 : decode kY_TrustDeskModel_isKnown.2.1 16 = .ok (.iconst 0, 1) := by decide +kernel
theorem d_TrustDeskModel_isKnown_17 : decode kY_TrustDeskModel_isKnown.2.1 17 = .ok (.ireturn, 1) := by decide +kernel
theorem d_TrustDeskModel_isKnown_4 : decode kY_TrustDeskModel_isKnown.2.1 4 = .ok (.iload_n 1, 1) := by decide +kernel
theorem d_TrustDeskModel_isKnown_5 : decode kY_TrustDeskModel_isKnown.2.1 5 = .ok (.aload_n 0, 1) := by decide +kernel
theorem d_TrustDeskModel_isKnown_6 : decode kY_TrustDeskModel_isKnown.2.1 6 = .ok (.getfield 164, 3) := by decide +kernel
theorem d_TrustDeskModel_isKnown_9 : decode kY_TrustDeskModel_isKnown.2.1 9 = .ok (.if_icmp .gt 7, 3) := by decide +kernel
theorem d_TrustDeskModel_isKnown_12 : decode kY_TrustDeskModel_isKnown.2.1 12 = .ok (.iconst 1, 1) := by decide +kernel
theorem d_TrustDeskModel_isKnown_13 : decode kY_TrustDeskModel_isKnown.2.1 13 = .ok (.goto 4, 3) := by decide +kernel
theorem c_TrustDeskModel_isKnown_0 {g : mj_G} {l : Launch} {d nx : Nat} {M : mj_M} {x1 : Int32} (h_99 : M 99 = some (.inr (13, [.int 0, .int 0, .int 0, .ref 100, .ref 101, .ref 102, .ref 103, .ref 104, .ref 105, .ref 106, .ref 107, .ref 108, .ref 109, .ref 110, .int 0, .int 0, .int 0, .int 0, .int 0, .int 0, .int 0, .int (-1), .int 0, .int 0, .int 0, .ref 111, .ref 112, .int 0, .ref 113, .ref 114, .ref 115, .int 0, .int 0, .ref 116, .ref 117, .ref 118, .ref 119, .ref 120, .ref 121, .ref 122, .ref 123, .ref 124, .ref 125, .ref 126, .ref 127, .ref 128, .ref 129, .ref 130, .ref 131, .int 0, .ref 132, .int 0, .ref 133, .int 0, .ref 134, .ref 135, .ref 136, .ref 137, .ref 138, .ref 139, .ref 140, .ref 141, .ref 142, .ref 143, .ref 144, .ref 145, .ref 146, .int 0, .long 0, .int 0, .int 0, .ref 147]))) : mj_Met g l kY_TrustDeskModel_isKnown d [.ref 99, .int x1] M nx 0 0 (mj_B (0 ≤ x1.toInt ∧ x1.toInt ≤ 0) M nx) := by
  refine mj_enter (by decide) (Nat.le_of_ble_eq_true rfl) ?_
  refine mv_iload_n d_TrustDeskModel_isKnown_0 rfl rfl ?_
  refine mv_if_ltZ (tgt := 16) (a := x1.toInt) d_TrustDeskModel_isKnown_1 (by decide) rfl (fun b1 => ?_) (fun b1 => ?_)
  · refine mv_iconst (v := 0) d_TrustDeskModel_isKnown_16 (by decide) ?_
    exact mv_iret d_TrustDeskModel_isKnown_17 rfl (by first | rfl | decide) ⟨Or.inr ⟨by omega, rfl⟩, rfl, rfl⟩
  · refine mv_iload_n d_TrustDeskModel_isKnown_4 rfl rfl ?_
    refine mv_aload_n d_TrustDeskModel_isKnown_5 rfl rfl ?_
    refine mv_get d_TrustDeskModel_isKnown_6 f_TrustDeskModel_164_13 h_99 rfl ?_
    refine mv_icmp_gtZ (tgt := 16) (a := x1.toInt) (b := 0) d_TrustDeskModel_isKnown_9 (by decide) rfl (by decide) (fun b2 => ?_) (fun b2 => ?_)
    · refine mv_iconst (v := 0) d_TrustDeskModel_isKnown_16 (by decide) ?_
      exact mv_iret d_TrustDeskModel_isKnown_17 rfl (by first | rfl | decide) ⟨Or.inr ⟨by omega, rfl⟩, rfl, rfl⟩
    · refine mv_iconst (v := 1) d_TrustDeskModel_isKnown_12 (by decide) ?_
      refine mv_goto (tgt := 17) d_TrustDeskModel_isKnown_13 (by decide) ?_
      exact mv_iret d_TrustDeskModel_isKnown_17 rfl (by first | rfl | decide) ⟨Or.inl ⟨by omega, rfl⟩, rfl, rfl⟩
theorem d_TrustDeskModel_factOf_29 : decode kY_TrustDeskModel_factOf.2.1 29 = .ok (.ifCond .eq 13, 3) := by decide +kernel
theorem d_TrustDeskModel_factOf_32 : decode kY_TrustDeskModel_factOf.2.1 32 = .ok (.aload_n 0, 1) := by decide +kernel
theorem d_TrustDeskModel_factOf_33 : decode kY_TrustDeskModel_factOf.2.1 33 = .ok (.iload_n 1, 1) := by decide +kernel
theorem d_TrustDeskModel_factOf_34 : decode kY_TrustDeskModel_factOf.2.1 34 = .ok (.iload_n 2, 1) := by decide +kernel
theorem d_TrustDeskModel_factOf_35 : decode kY_TrustDeskModel_factOf.2.1 35 = .ok (.iload_n 3, 1) := by decide +kernel
theorem d_TrustDeskModel_factOf_36 : decode kY_TrustDeskModel_factOf.2.1 36 = .ok (.invokevirtual 185, 3) := by decide +kernel
abbrev kY_TrustDeskModel_factAt : mj_Y := (⟨"TrustDeskModel", "factAt", "(III)I"⟩, prog_14_method_9_code, 6, (Option.some Jvm.ClassFile.FieldType.int))
theorem lV_TrustDeskModel_185 : mj_lV "TrustDeskModel" 185 kY_TrustDeskModel_factAt 3 := ⟨⟨(mj_in1 (List.mem_of_getElem? (i := 1627) (by decide +kernel)) rfl), (mj_in1 (List.mem_of_getElem? (i := 10) (by decide +kernel)) rfl), (mj_in1 (List.mem_of_getElem? (i := 1630) (by decide +kernel)) rfl), by decide, rfl, by decide⟩, (mj_in1 (List.mem_of_getElem? (i := 1629) (by decide +kernel)) rfl), (mj_in (List.mem_append_left _ (List.mem_of_getElem? (i := 79) (by decide +kernel))) rfl)⟩
theorem d_TrustDeskModel_factAt_0 : decode kY_TrustDeskModel_factAt.2.1 0 = .ok (.iconst (-1), 1) := by decide +kernel
theorem d_TrustDeskModel_factAt_1 : decode kY_TrustDeskModel_factAt.2.1 1 = .ok (.istore 4, 2) := by decide +kernel
theorem d_TrustDeskModel_factAt_3 : decode kY_TrustDeskModel_factAt.2.1 3 = .ok (.aload_n 0, 1) := by decide +kernel
theorem d_TrustDeskModel_factAt_4 : decode kY_TrustDeskModel_factAt.2.1 4 = .ok (.getfield 179, 3) := by decide +kernel
theorem d_TrustDeskModel_factAt_7 : decode kY_TrustDeskModel_factAt.2.1 7 = .ok (.iconst 1, 1) := by decide +kernel
theorem d_TrustDeskModel_factAt_8 : decode kY_TrustDeskModel_factAt.2.1 8 = .ok (.isub, 1) := by decide +kernel
theorem d_TrustDeskModel_factAt_9 : decode kY_TrustDeskModel_factAt.2.1 9 = .ok (.istore 5, 2) := by decide +kernel
theorem d_TrustDeskModel_factAt_11 : decode kY_TrustDeskModel_factAt.2.1 11 = .ok (.iload 5, 2) := by decide +kernel
theorem d_TrustDeskModel_factAt_13 : decode kY_TrustDeskModel_factAt.2.1 13 = .ok (.ifCond .lt 90, 3) := by decide +kernel
theorem d_TrustDeskModel_factAt_103 : decode kY_TrustDeskModel_factAt.2.1 103 = .ok (.iload 4, 2) := by decide +kernel
theorem d_TrustDeskModel_factAt_105 : decode kY_TrustDeskModel_factAt.2.1 105 = .ok (.iconst (-1), 1) := by decide +kernel
theorem d_TrustDeskModel_factAt_106 : decode kY_TrustDeskModel_factAt.2.1 106 = .ok (.if_icmp .ne 7, 3) := by decide +kernel
theorem d_TrustDeskModel_factAt_109 : decode kY_TrustDeskModel_factAt.2.1 109 = .ok (.iconst 0, 1) := by decide +kernel
theorem d_TrustDeskModel_factAt_110 : decode kY_TrustDeskModel_factAt.2.1 110 = .ok (.goto 14, 3) := by decide +kernel
theorem d_TrustDeskModel_factAt_124 : decode kY_TrustDeskModel_factAt.2.1 124 = .ok (.ireturn, 1) := by decide +kernel
theorem c_TrustDeskModel_factAt_0 {g : mj_G} {l : Launch} {d nx : Nat} {M : mj_M} {x1 : Int32} {x2 : Int32} {x3 : Int32} (h_99 : M 99 = some (.inr (13, [.int 0, .int 0, .int 0, .ref 100, .ref 101, .ref 102, .ref 103, .ref 104, .ref 105, .ref 106, .ref 107, .ref 108, .ref 109, .ref 110, .int 0, .int 0, .int 0, .int 0, .int 0, .int 0, .int 0, .int (-1), .int 0, .int 0, .int 0, .ref 111, .ref 112, .int 0, .ref 113, .ref 114, .ref 115, .int 0, .int 0, .ref 116, .ref 117, .ref 118, .ref 119, .ref 120, .ref 121, .ref 122, .ref 123, .ref 124, .ref 125, .ref 126, .ref 127, .ref 128, .ref 129, .ref 130, .ref 131, .int 0, .ref 132, .int 0, .ref 133, .int 0, .ref 134, .ref 135, .ref 136, .ref 137, .ref 138, .ref 139, .ref 140, .ref 141, .ref 142, .ref 143, .ref 144, .ref 145, .ref 146, .int 0, .long 0, .int 0, .int 0, .ref 147]))) : mj_Met g l kY_TrustDeskModel_factAt d [.ref 99, .int x1, .int x2, .int x3] M nx 0 0 (mj_E1 (some (.int 0)) M nx) := by
  refine mj_enter (by decide) (Nat.le_of_ble_eq_true rfl) ?_
  refine mv_iconst (v := (-1)) d_TrustDeskModel_factAt_0 (by decide) ?_
  refine mv_istore (lv' := [(4, .int (-1)), (0, .ref 99), (1, .int x1), (2, .int x2), (3, .int x3)]) d_TrustDeskModel_factAt_1 (by decide) rfl ?_
  refine mv_aload_n d_TrustDeskModel_factAt_3 rfl rfl ?_
  refine mv_get d_TrustDeskModel_factAt_4 f_TrustDeskModel_179_13 h_99 rfl ?_
  refine mv_iconst (v := 1) d_TrustDeskModel_factAt_7 (by decide) ?_
  refine mv_isubv (v := (-1)) d_TrustDeskModel_factAt_8 (by decide) ?_
  refine mv_istore (lv' := [(5, .int (-1)), (4, .int (-1)), (0, .ref 99), (1, .int x1), (2, .int x2), (3, .int x3)]) d_TrustDeskModel_factAt_9 (by decide) rfl ?_
  refine mv_iload d_TrustDeskModel_factAt_11 rfl ?_
  refine mv_if_lt_t (tgt := 103) d_TrustDeskModel_factAt_13 (by decide) (by decide) ?_
  refine mv_iload d_TrustDeskModel_factAt_103 rfl ?_
  refine mv_iconst (v := (-1)) d_TrustDeskModel_factAt_105 (by decide) ?_
  refine mv_icmp_ne_f (tgt := 113) d_TrustDeskModel_factAt_106 (by decide) (by decide) ?_
  refine mv_iconst (v := 0) d_TrustDeskModel_factAt_109 (by decide) ?_
  refine mv_goto (tgt := 124) d_TrustDeskModel_factAt_110 (by decide) ?_
  exact mv_iret d_TrustDeskModel_factAt_124 rfl (by first | rfl | decide) ⟨rfl, rfl, rfl⟩
theorem d_TrustDeskModel_factOf_39 : decode kY_TrustDeskModel_factOf.2.1 39 = .ok (.goto 4, 3) := by decide +kernel
theorem d_TrustDeskModel_factOf_43 : decode kY_TrustDeskModel_factOf.2.1 43 = .ok (.ireturn, 1) := by decide +kernel
theorem d_TrustDeskModel_factOf_42 : decode kY_TrustDeskModel_factOf.2.1 42 = .ok (.iconst (-1), 1) := by decide +kernel
theorem c_TrustDeskModel_factOf_0 {g : mj_G} {l : Launch} {d nx : Nat} {M : mj_M} {x1 : Int32} {x2 : Int32} {x3 : Int32} (h_99 : M 99 = some (.inr (13, [.int 0, .int 0, .int 0, .ref 100, .ref 101, .ref 102, .ref 103, .ref 104, .ref 105, .ref 106, .ref 107, .ref 108, .ref 109, .ref 110, .int 0, .int 0, .int 0, .int 0, .int 0, .int 0, .int 0, .int (-1), .int 0, .int 0, .int 0, .ref 111, .ref 112, .int 0, .ref 113, .ref 114, .ref 115, .int 0, .int 0, .ref 116, .ref 117, .ref 118, .ref 119, .ref 120, .ref 121, .ref 122, .ref 123, .ref 124, .ref 125, .ref 126, .ref 127, .ref 128, .ref 129, .ref 130, .ref 131, .int 0, .ref 132, .int 0, .ref 133, .int 0, .ref 134, .ref 135, .ref 136, .ref 137, .ref 138, .ref 139, .ref 140, .ref 141, .ref 142, .ref 143, .ref 144, .ref 145, .ref 146, .int 0, .long 0, .int 0, .int 0, .ref 147]))) : mj_Met g l kY_TrustDeskModel_factOf (d + 1) [.ref 99, .int x1, .int x2, .int x3] M nx 0 0 (mj_KP (some (.int (e_factOf x1 x2 x3))) M 0 0) := by
  refine mj_enter (by decide) (Nat.le_of_ble_eq_true rfl) ?_
  refine mv_aload_n d_TrustDeskModel_factOf_0 rfl rfl ?_
  refine mv_iconst (v := 0) d_TrustDeskModel_factOf_1 (by decide) ?_
  refine mv_put (fs' := [.int 0, .int 0, .int 0, .ref 100, .ref 101, .ref 102, .ref 103, .ref 104, .ref 105, .ref 106, .ref 107, .ref 108, .ref 109, .ref 110, .int 0, .int 0, .int 0, .int 0, .int 0, .int 0, .int 0, .int (-1), .int 0, .int 0, .int 0, .ref 111, .ref 112, .int 0, .ref 113, .ref 114, .ref 115, .int 0, .int 0, .ref 116, .ref 117, .ref 118, .ref 119, .ref 120, .ref 121, .ref 122, .ref 123, .ref 124, .ref 125, .ref 126, .ref 127, .ref 128, .ref 129, .ref 130, .ref 131, .int 0, .ref 132, .int 0, .ref 133, .int 0, .ref 134, .ref 135, .ref 136, .ref 137, .ref 138, .ref 139, .ref 140, .ref 141, .ref 142, .ref 143, .ref 144, .ref 145, .ref 146, .int 0, .long 0, .int 0, .int 0, .ref 147]) d_TrustDeskModel_factOf_2 p_TrustDeskModel_1_13 h_99 (Nat.le_of_ble_eq_true rfl) rfl rfl rfl ?_
  refine mv_iload_n d_TrustDeskModel_factOf_5 rfl rfl ?_
  refine mv_i2l (v := x1.toInt64) d_TrustDeskModel_factOf_6 rfl ?_
  refine mv_lconst (v := 0) d_TrustDeskModel_factOf_7 (by decide) ?_
  refine mv_ldc2 d_TrustDeskModel_factOf_8 k_TrustDeskModel_167 ?_
  refine mv_callS_b (kc' := 0) (ks' := 0) [.long x1.toInt64, .long 0, .long 7] [.long 7, .long 0, .long x1.toInt64] d_TrustDeskModel_factOf_11 lS_TrustDeskModel_169 (c_TrustDeskModel_within_0 (d := d) (x0 := x1.toInt64)) rfl (Nat.le_of_ble_eq_true rfl) (Nat.le_of_ble_eq_true rfl) (Nat.le_of_ble_eq_true rfl) rfl (fun b1 => ?_) (fun b1 => ?_)
  · rw [mz_wide] at b1
    refine mv_if_eq_f (tgt := 42) d_TrustDeskModel_factOf_14 (by decide) (by decide) ?_
    refine mv_iload_n d_TrustDeskModel_factOf_17 rfl rfl ?_
    refine mv_callS_b (kc' := 0) (ks' := 0) [.int x2] [.int x2] d_TrustDeskModel_factOf_18 lS_TrustDeskModel_173 (c_TrustDeskModel_isYear_0 (d := d) (x0 := x2)) rfl (Nat.le_of_ble_eq_true rfl) (Nat.le_of_ble_eq_true rfl) (Nat.le_of_ble_eq_true rfl) rfl (fun b2 => ?_) (fun b2 => ?_)
    · refine mv_if_eq_f (tgt := 42) d_TrustDeskModel_factOf_21 (by decide) (by decide) ?_
      refine mv_aload_n d_TrustDeskModel_factOf_24 rfl rfl ?_
      refine mv_iload_n d_TrustDeskModel_factOf_25 rfl rfl ?_
      refine mv_callV_b (kc' := 0) (ks' := 0) [.int x3] [.int x3, .ref 99] d_TrustDeskModel_factOf_26 lV_TrustDeskModel_182 (mj_up_self _ _ _) rfl (c_TrustDeskModel_isKnown_0 (d := d) (x1 := x3) (h_99 := (mj_up_self _ _ _))) rfl (Nat.le_of_ble_eq_true rfl) (Nat.le_of_ble_eq_true rfl) (Nat.le_of_ble_eq_true rfl) rfl (fun b3 => ?_) (fun b3 => ?_)
      · refine mv_if_eq_f (tgt := 42) d_TrustDeskModel_factOf_29 (by decide) (by decide) ?_
        refine mv_aload_n d_TrustDeskModel_factOf_32 rfl rfl ?_
        refine mv_iload_n d_TrustDeskModel_factOf_33 rfl rfl ?_
        refine mv_iload_n d_TrustDeskModel_factOf_34 rfl rfl ?_
        refine mv_iload_n d_TrustDeskModel_factOf_35 rfl rfl ?_
        refine mv_callV_s (kc' := 0) (ks' := 0) [.int x1, .int x2, .int x3] [.int x3, .int x2, .int x1, .ref 99] d_TrustDeskModel_factOf_36 lV_TrustDeskModel_185 (mj_up_self _ _ _) rfl (c_TrustDeskModel_factAt_0 (d := d) (x1 := x1) (x2 := x2) (x3 := x3) (h_99 := (mj_up_self _ _ _))) rfl (Nat.le_of_ble_eq_true rfl) (Nat.le_of_ble_eq_true rfl) (Nat.le_of_ble_eq_true rfl) rfl ?_
        refine mv_goto (tgt := 43) d_TrustDeskModel_factOf_39 (by decide) ?_
        exact mv_iret d_TrustDeskModel_factOf_43 rfl (by first | rfl | decide) ⟨(by unfold e_factOf; first | rw [if_pos (by omega)] | rw [if_neg (by omega)]), fun a ha1 ha2 => (mj_up_ne _ _ (show a ≠ 99 by omega)).trans (rfl)⟩
      · refine mv_if_eq_t (tgt := 42) d_TrustDeskModel_factOf_29 (by decide) (by decide) ?_
        refine mv_iconst (v := (-1)) d_TrustDeskModel_factOf_42 (by decide) ?_
        exact mv_iret d_TrustDeskModel_factOf_43 rfl (by first | rfl | decide) ⟨(by unfold e_factOf; first | rw [if_pos (by omega)] | rw [if_neg (by omega)]), fun a ha1 ha2 => (mj_up_ne _ _ (show a ≠ 99 by omega)).trans (rfl)⟩
    · refine mv_if_eq_t (tgt := 42) d_TrustDeskModel_factOf_21 (by decide) (by decide) ?_
      refine mv_iconst (v := (-1)) d_TrustDeskModel_factOf_42 (by decide) ?_
      exact mv_iret d_TrustDeskModel_factOf_43 rfl (by first | rfl | decide) ⟨(by unfold e_factOf; first | rw [if_pos (by omega)] | rw [if_neg (by omega)]), fun a ha1 ha2 => (mj_up_ne _ _ (show a ≠ 99 by omega)).trans (rfl)⟩
  · rw [mz_wide] at b1
    refine mv_if_eq_t (tgt := 42) d_TrustDeskModel_factOf_14 (by decide) (by decide) ?_
    refine mv_iconst (v := (-1)) d_TrustDeskModel_factOf_42 (by decide) ?_
    exact mv_iret d_TrustDeskModel_factOf_43 rfl (by first | rfl | decide) ⟨(by unfold e_factOf; first | rw [if_pos (by omega)] | rw [if_neg (by omega)]), fun a ha1 ha2 => (mj_up_ne _ _ (show a ≠ 99 by omega)).trans (rfl)⟩
abbrev kY_TrustDeskModel_feed : mj_Y := (⟨"TrustDeskModel", "feed", "(IIIII)I"⟩, prog_14_method_11_code, 8, (Option.some Jvm.ClassFile.FieldType.int))
theorem d_TrustDeskModel_feed_0 : decode kY_TrustDeskModel_feed.2.1 0 = .ok (.aload_n 0, 1) := by decide +kernel
theorem d_TrustDeskModel_feed_1 : decode kY_TrustDeskModel_feed.2.1 1 = .ok (.iconst 0, 1) := by decide +kernel
theorem d_TrustDeskModel_feed_2 : decode kY_TrustDeskModel_feed.2.1 2 = .ok (.putfield 1, 3) := by decide +kernel
theorem d_TrustDeskModel_feed_5 : decode kY_TrustDeskModel_feed.2.1 5 = .ok (.aload_n 0, 1) := by decide +kernel
theorem d_TrustDeskModel_feed_6 : decode kY_TrustDeskModel_feed.2.1 6 = .ok (.getfield 189, 3) := by decide +kernel
theorem f_TrustDeskModel_189_13 : mj_fl "TrustDeskModel" 189 13 14 := ⟨kR_TrustDeskModel, kF_TrustDeskModel, 72, "TrustDeskModel", rfl, kg_13, by decide, (mj_in1 (List.mem_of_getElem? (i := 1404) (by decide +kernel)) rfl), Or.inl rfl⟩
theorem d_TrustDeskModel_feed_9 : decode kY_TrustDeskModel_feed.2.1 9 = .ok (.bipush 20, 2) := by decide +kernel
theorem d_TrustDeskModel_feed_11 : decode kY_TrustDeskModel_feed.2.1 11 = .ok (.iadd, 1) := by decide +kernel
theorem d_TrustDeskModel_feed_12 : decode kY_TrustDeskModel_feed.2.1 12 = .ok (.sipush 400, 3) := by decide +kernel
theorem d_TrustDeskModel_feed_15 : decode kY_TrustDeskModel_feed.2.1 15 = .ok (.if_icmp .le 5, 3) := by decide +kernel
theorem d_TrustDeskModel_feed_20 : decode kY_TrustDeskModel_feed.2.1 20 = .ok (.iconst 0, 1) := by decide +kernel
theorem d_TrustDeskModel_feed_21 : decode kY_TrustDeskModel_feed.2.1 21 = .ok (.istore 6, 2) := by decide +kernel
theorem d_TrustDeskModel_feed_23 : decode kY_TrustDeskModel_feed.2.1 23 = .ok (.iload 6, 2) := by decide +kernel
theorem d_TrustDeskModel_feed_25 : decode kY_TrustDeskModel_feed.2.1 25 = .ok (.bipush 20, 2) := by decide +kernel
theorem d_TrustDeskModel_feed_27 : decode kY_TrustDeskModel_feed.2.1 27 = .ok (.if_icmp .ge 90, 3) := by decide +kernel
theorem d_TrustDeskModel_feed_30 : decode kY_TrustDeskModel_feed.2.1 30 = .ok (.iload 6, 2) := by decide +kernel
theorem d_TrustDeskModel_feed_32 : decode kY_TrustDeskModel_feed.2.1 32 = .ok (.iconst 4, 1) := by decide +kernel
theorem d_TrustDeskModel_feed_33 : decode kY_TrustDeskModel_feed.2.1 33 = .ok (.if_icmp .ge 7, 3) := by decide +kernel
theorem d_TrustDeskModel_feed_36 : decode kY_TrustDeskModel_feed.2.1 36 = .ok (.iload_n 1, 1) := by decide +kernel
theorem d_TrustDeskModel_feed_37 : decode kY_TrustDeskModel_feed.2.1 37 = .ok (.goto 39, 3) := by decide +kernel
theorem d_TrustDeskModel_feed_76 : decode kY_TrustDeskModel_feed.2.1 76 = .ok (.istore 7, 2) := by decide +kernel
theorem d_TrustDeskModel_feed_78 : decode kY_TrustDeskModel_feed.2.1 78 = .ok (.aload_n 0, 1) := by decide +kernel
theorem d_TrustDeskModel_feed_79 : decode kY_TrustDeskModel_feed.2.1 79 = .ok (.getfield 44, 3) := by decide +kernel
theorem f_TrustDeskModel_44_13 : mj_fl "TrustDeskModel" 44 13 13 := ⟨kR_TrustDeskModel, kF_TrustDeskModel, 72, "TrustDeskModel", rfl, kg_13, by decide, (mj_in1 (List.mem_of_getElem? (i := 1403) (by decide +kernel)) rfl), Or.inl rfl⟩
theorem d_TrustDeskModel_feed_82 : decode kY_TrustDeskModel_feed.2.1 82 = .ok (.aload_n 0, 1) := by decide +kernel
theorem d_TrustDeskModel_feed_83 : decode kY_TrustDeskModel_feed.2.1 83 = .ok (.getfield 189, 3) := by decide +kernel
theorem d_TrustDeskModel_feed_86 : decode kY_TrustDeskModel_feed.2.1 86 = .ok (.iload 7, 2) := by decide +kernel
theorem d_TrustDeskModel_feed_88 : decode kY_TrustDeskModel_feed.2.1 88 = .ok (.bipush 24, 2) := by decide +kernel
theorem d_TrustDeskModel_feed_90 : decode kY_TrustDeskModel_feed.2.1 90 = .ok (.bipush 8, 2) := by decide +kernel
theorem d_TrustDeskModel_feed_92 : decode kY_TrustDeskModel_feed.2.1 92 = .ok (.iload 6, 2) := by decide +kernel
theorem d_TrustDeskModel_feed_94 : decode kY_TrustDeskModel_feed.2.1 94 = .ok (.iconst 4, 1) := by decide +kernel
theorem d_TrustDeskModel_feed_95 : decode kY_TrustDeskModel_feed.2.1 95 = .ok (.irem, 1) := by decide +kernel
theorem d_TrustDeskModel_feed_96 : decode kY_TrustDeskModel_feed.2.1 96 = .ok (.imul, 1) := by decide +kernel
theorem d_TrustDeskModel_feed_97 : decode kY_TrustDeskModel_feed.2.1 97 = .ok (.isub, 1) := by decide +kernel
theorem d_TrustDeskModel_feed_98 : decode kY_TrustDeskModel_feed.2.1 98 = .ok (.ishr, 1) := by decide +kernel
theorem d_TrustDeskModel_feed_99 : decode kY_TrustDeskModel_feed.2.1 99 = .ok (.i2b, 1) := by decide +kernel
theorem d_TrustDeskModel_feed_100 : decode kY_TrustDeskModel_feed.2.1 100 = .ok (.bastore, 1) := by decide +kernel
theorem d_TrustDeskModel_feed_101 : decode kY_TrustDeskModel_feed.2.1 101 = .ok (.aload_n 0, 1) := by decide +kernel
theorem d_TrustDeskModel_feed_102 : decode kY_TrustDeskModel_feed.2.1 102 = .ok (.dup, 1) := by decide +kernel
theorem d_TrustDeskModel_feed_103 : decode kY_TrustDeskModel_feed.2.1 103 = .ok (.getfield 189, 3) := by decide +kernel
theorem d_TrustDeskModel_feed_106 : decode kY_TrustDeskModel_feed.2.1 106 = .ok (.iconst 1, 1) := by decide +kernel
theorem d_TrustDeskModel_feed_107 : decode kY_TrustDeskModel_feed.2.1 107 = .ok (.iadd, 1) := by decide +kernel
theorem d_TrustDeskModel_feed_108 : decode kY_TrustDeskModel_feed.2.1 108 = .ok (.putfield 189, 3) := by decide +kernel
theorem p_TrustDeskModel_189_13 : mj_fp "TrustDeskModel" 189 13 14 (kt_TrustDeskModel 14) false := ⟨kR_TrustDeskModel, kF_TrustDeskModel, 72, "TrustDeskModel", kt_TrustDeskModel, rfl, kg_13, by decide, (mj_in1 (List.mem_of_getElem? (i := 1404) (by decide +kernel)) rfl), Or.inl rfl, kto_TrustDeskModel, kn_TrustDeskModel, rfl, rfl, fun h => by cases h⟩
theorem d_TrustDeskModel_feed_111 : decode kY_TrustDeskModel_feed.2.1 111 = .ok (.iinc 6 1, 3) := by decide +kernel
theorem d_TrustDeskModel_feed_114 : decode kY_TrustDeskModel_feed.2.1 114 = .ok (.goto (-91), 3) := by decide +kernel
theorem d_TrustDeskModel_feed_40 : decode kY_TrustDeskModel_feed.2.1 40 = .ok (.iload 6, 2) := by decide +kernel
theorem d_TrustDeskModel_feed_42 : decode kY_TrustDeskModel_feed.2.1 42 = .ok (.bipush 8, 2) := by decide +kernel
theorem d_TrustDeskModel_feed_44 : decode kY_TrustDeskModel_feed.2.1 44 = .ok (.if_icmp .ge 7, 3) := by decide +kernel
theorem d_TrustDeskModel_feed_47 : decode kY_TrustDeskModel_feed.2.1 47 = .ok (.iload_n 2, 1) := by decide +kernel
theorem d_TrustDeskModel_feed_48 : decode kY_TrustDeskModel_feed.2.1 48 = .ok (.goto 28, 3) := by decide +kernel
theorem d_TrustDeskModel_feed_51 : decode kY_TrustDeskModel_feed.2.1 51 = .ok (.iload 6, 2) := by decide +kernel
theorem d_TrustDeskModel_feed_53 : decode kY_TrustDeskModel_feed.2.1 53 = .ok (.bipush 12, 2) := by decide +kernel
theorem d_TrustDeskModel_feed_55 : decode kY_TrustDeskModel_feed.2.1 55 = .ok (.if_icmp .ge 7, 3) := by decide +kernel
theorem d_TrustDeskModel_feed_58 : decode kY_TrustDeskModel_feed.2.1 58 = .ok (.iload_n 3, 1) := by decide +kernel
theorem d_TrustDeskModel_feed_59 : decode kY_TrustDeskModel_feed.2.1 59 = .ok (.goto 17, 3) := by decide +kernel
theorem d_TrustDeskModel_feed_62 : decode kY_TrustDeskModel_feed.2.1 62 = .ok (.iload 6, 2) := by decide +kernel
theorem d_TrustDeskModel_feed_64 : decode kY_TrustDeskModel_feed.2.1 64 = .ok (.bipush 16, 2) := by decide +kernel
theorem d_TrustDeskModel_feed_66 : decode kY_TrustDeskModel_feed.2.1 66 = .ok (.if_icmp .ge 8, 3) := by decide +kernel
theorem d_TrustDeskModel_feed_69 : decode kY_TrustDeskModel_feed.2.1 69 = .ok (.iload 4, 2) := by decide +kernel
theorem d_TrustDeskModel_feed_71 : decode kY_TrustDeskModel_feed.2.1 71 = .ok (.goto 5, 3) := by decide +kernel
theorem d_TrustDeskModel_feed_74 : decode kY_TrustDeskModel_feed.2.1 74 = .ok (.iload 5, 2) := by decide +kernel
theorem d_TrustDeskModel_feed_117 : decode kY_TrustDeskModel_feed.2.1 117 = .ok (.aload_n 0, 1) := by decide +kernel
theorem d_TrustDeskModel_feed_118 : decode kY_TrustDeskModel_feed.2.1 118 = .ok (.getfield 189, 3) := by decide +kernel
theorem d_TrustDeskModel_feed_121 : decode kY_TrustDeskModel_feed.2.1 121 = .ok (.ireturn, 1) := by decide +kernel
theorem c_TrustDeskModel_feed_0 {g : mj_G} {l : Launch} {d nx : Nat} {M : mj_M} {x1 : Int32} {x2 : Int32} {x3 : Int32} {x4 : Int32} {x5 : Int32} (h_99 : M 99 = some (.inr (13, [.int 0, .int 0, .int 0, .ref 100, .ref 101, .ref 102, .ref 103, .ref 104, .ref 105, .ref 106, .ref 107, .ref 108, .ref 109, .ref 110, .int 0, .int 0, .int 0, .int 0, .int 0, .int 0, .int 0, .int (-1), .int 0, .int 0, .int 0, .ref 111, .ref 112, .int 0, .ref 113, .ref 114, .ref 115, .int 0, .int 0, .ref 116, .ref 117, .ref 118, .ref 119, .ref 120, .ref 121, .ref 122, .ref 123, .ref 124, .ref 125, .ref 126, .ref 127, .ref 128, .ref 129, .ref 130, .ref 131, .int 0, .ref 132, .int 0, .ref 133, .int 0, .ref 134, .ref 135, .ref 136, .ref 137, .ref 138, .ref 139, .ref 140, .ref 141, .ref 142, .ref 143, .ref 144, .ref 145, .ref 146, .int 0, .long 0, .int 0, .int 0, .ref 147]))) (h_110 : M 110 = some (.inl (3, 400, .inl (fun _ => 0)))) : mj_Met g l kY_TrustDeskModel_feed d [.ref 99, .int x1, .int x2, .int x3, .int x4, .int x5] M nx 0 0 (mj_E1 (some (.int 20)) (mj_up (mj_up (mj_up (mj_up (mj_up (mj_up (mj_up (mj_up (mj_up (mj_up (mj_up (mj_up (mj_up (mj_up (mj_up (mj_up (mj_up (mj_up (mj_up (mj_up (mj_up (mj_up (mj_up (mj_up (mj_up (mj_up (mj_up (mj_up (mj_up (mj_up (mj_up (mj_up (mj_up (mj_up (mj_up (mj_up (mj_up (mj_up (mj_up (mj_up (mj_up M 99 (.inr (13, [.int 0, .int 0, .int 0, .ref 100, .ref 101, .ref 102, .ref 103, .ref 104, .ref 105, .ref 106, .ref 107, .ref 108, .ref 109, .ref 110, .int 0, .int 0, .int 0, .int 0, .int 0, .int 0, .int 0, .int (-1), .int 0, .int 0, .int 0, .ref 111, .ref 112, .int 0, .ref 113, .ref 114, .ref 115, .int 0, .int 0, .ref 116, .ref 117, .ref 118, .ref 119, .ref 120, .ref 121, .ref 122, .ref 123, .ref 124, .ref 125, .ref 126, .ref 127, .ref 128, .ref 129, .ref 130, .ref 131, .int 0, .ref 132, .int 0, .ref 133, .int 0, .ref 134, .ref 135, .ref 136, .ref 137, .ref 138, .ref 139, .ref 140, .ref 141, .ref 142, .ref 143, .ref 144, .ref 145, .ref 146, .int 0, .long 0, .int 0, .int 0, .ref 147]))) 110 (.inl (3, 400, .inl (upd (fun _ => 0) 0 (((x1 >>> (24 &&& 31)).toInt8.toInt32).toInt8.toInt32))))) 99 (.inr (13, [.int 0, .int 0, .int 0, .ref 100, .ref 101, .ref 102, .ref 103, .ref 104, .ref 105, .ref 106, .ref 107, .ref 108, .ref 109, .ref 110, .int 1, .int 0, .int 0, .int 0, .int 0, .int 0, .int 0, .int (-1), .int 0, .int 0, .int 0, .ref 111, .ref 112, .int 0, .ref 113, .ref 114, .ref 115, .int 0, .int 0, .ref 116, .ref 117, .ref 118, .ref 119, .ref 120, .ref 121, .ref 122, .ref 123, .ref 124, .ref 125, .ref 126, .ref 127, .ref 128, .ref 129, .ref 130, .ref 131, .int 0, .ref 132, .int 0, .ref 133, .int 0, .ref 134, .ref 135, .ref 136, .ref 137, .ref 138, .ref 139, .ref 140, .ref 141, .ref 142, .ref 143, .ref 144, .ref 145, .ref 146, .int 0, .long 0, .int 0, .int 0, .ref 147]))) 110 (.inl (3, 400, .inl (upd (upd (fun _ => 0) 0 (((x1 >>> (24 &&& 31)).toInt8.toInt32).toInt8.toInt32)) 1 (((x1 >>> (16 &&& 31)).toInt8.toInt32).toInt8.toInt32))))) 99 (.inr (13, [.int 0, .int 0, .int 0, .ref 100, .ref 101, .ref 102, .ref 103, .ref 104, .ref 105, .ref 106, .ref 107, .ref 108, .ref 109, .ref 110, .int 2, .int 0, .int 0, .int 0, .int 0, .int 0, .int 0, .int (-1), .int 0, .int 0, .int 0, .ref 111, .ref 112, .int 0, .ref 113, .ref 114, .ref 115, .int 0, .int 0, .ref 116, .ref 117, .ref 118, .ref 119, .ref 120, .ref 121, .ref 122, .ref 123, .ref 124, .ref 125, .ref 126, .ref 127, .ref 128, .ref 129, .ref 130, .ref 131, .int 0, .ref 132, .int 0, .ref 133, .int 0, .ref 134, .ref 135, .ref 136, .ref 137, .ref 138, .ref 139, .ref 140, .ref 141, .ref 142, .ref 143, .ref 144, .ref 145, .ref 146, .int 0, .long 0, .int 0, .int 0, .ref 147]))) 110 (.inl (3, 400, .inl (upd (upd (upd (fun _ => 0) 0 (((x1 >>> (24 &&& 31)).toInt8.toInt32).toInt8.toInt32)) 1 (((x1 >>> (16 &&& 31)).toInt8.toInt32).toInt8.toInt32)) 2 (((x1 >>> (8 &&& 31)).toInt8.toInt32).toInt8.toInt32))))) 99 (.inr (13, [.int 0, .int 0, .int 0, .ref 100, .ref 101, .ref 102, .ref 103, .ref 104, .ref 105, .ref 106, .ref 107, .ref 108, .ref 109, .ref 110, .int 3, .int 0, .int 0, .int 0, .int 0, .int 0, .int 0, .int (-1), .int 0, .int 0, .int 0, .ref 111, .ref 112, .int 0, .ref 113, .ref 114, .ref 115, .int 0, .int 0, .ref 116, .ref 117, .ref 118, .ref 119, .ref 120, .ref 121, .ref 122, .ref 123, .ref 124, .ref 125, .ref 126, .ref 127, .ref 128, .ref 129, .ref 130, .ref 131, .int 0, .ref 132, .int 0, .ref 133, .int 0, .ref 134, .ref 135, .ref 136, .ref 137, .ref 138, .ref 139, .ref 140, .ref 141, .ref 142, .ref 143, .ref 144, .ref 145, .ref 146, .int 0, .long 0, .int 0, .int 0, .ref 147]))) 110 (.inl (3, 400, .inl (upd (upd (upd (upd (fun _ => 0) 0 (((x1 >>> (24 &&& 31)).toInt8.toInt32).toInt8.toInt32)) 1 (((x1 >>> (16 &&& 31)).toInt8.toInt32).toInt8.toInt32)) 2 (((x1 >>> (8 &&& 31)).toInt8.toInt32).toInt8.toInt32)) 3 (((x1 >>> (0 &&& 31)).toInt8.toInt32).toInt8.toInt32))))) 99 (.inr (13, [.int 0, .int 0, .int 0, .ref 100, .ref 101, .ref 102, .ref 103, .ref 104, .ref 105, .ref 106, .ref 107, .ref 108, .ref 109, .ref 110, .int 4, .int 0, .int 0, .int 0, .int 0, .int 0, .int 0, .int (-1), .int 0, .int 0, .int 0, .ref 111, .ref 112, .int 0, .ref 113, .ref 114, .ref 115, .int 0, .int 0, .ref 116, .ref 117, .ref 118, .ref 119, .ref 120, .ref 121, .ref 122, .ref 123, .ref 124, .ref 125, .ref 126, .ref 127, .ref 128, .ref 129, .ref 130, .ref 131, .int 0, .ref 132, .int 0, .ref 133, .int 0, .ref 134, .ref 135, .ref 136, .ref 137, .ref 138, .ref 139, .ref 140, .ref 141, .ref 142, .ref 143, .ref 144, .ref 145, .ref 146, .int 0, .long 0, .int 0, .int 0, .ref 147]))) 110 (.inl (3, 400, .inl (upd (upd (upd (upd (upd (fun _ => 0) 0 (((x1 >>> (24 &&& 31)).toInt8.toInt32).toInt8.toInt32)) 1 (((x1 >>> (16 &&& 31)).toInt8.toInt32).toInt8.toInt32)) 2 (((x1 >>> (8 &&& 31)).toInt8.toInt32).toInt8.toInt32)) 3 (((x1 >>> (0 &&& 31)).toInt8.toInt32).toInt8.toInt32)) 4 (((x2 >>> (24 &&& 31)).toInt8.toInt32).toInt8.toInt32))))) 99 (.inr (13, [.int 0, .int 0, .int 0, .ref 100, .ref 101, .ref 102, .ref 103, .ref 104, .ref 105, .ref 106, .ref 107, .ref 108, .ref 109, .ref 110, .int 5, .int 0, .int 0, .int 0, .int 0, .int 0, .int 0, .int (-1), .int 0, .int 0, .int 0, .ref 111, .ref 112, .int 0, .ref 113, .ref 114, .ref 115, .int 0, .int 0, .ref 116, .ref 117, .ref 118, .ref 119, .ref 120, .ref 121, .ref 122, .ref 123, .ref 124, .ref 125, .ref 126, .ref 127, .ref 128, .ref 129, .ref 130, .ref 131, .int 0, .ref 132, .int 0, .ref 133, .int 0, .ref 134, .ref 135, .ref 136, .ref 137, .ref 138, .ref 139, .ref 140, .ref 141, .ref 142, .ref 143, .ref 144, .ref 145, .ref 146, .int 0, .long 0, .int 0, .int 0, .ref 147]))) 110 (.inl (3, 400, .inl (upd (upd (upd (upd (upd (upd (fun _ => 0) 0 (((x1 >>> (24 &&& 31)).toInt8.toInt32).toInt8.toInt32)) 1 (((x1 >>> (16 &&& 31)).toInt8.toInt32).toInt8.toInt32)) 2 (((x1 >>> (8 &&& 31)).toInt8.toInt32).toInt8.toInt32)) 3 (((x1 >>> (0 &&& 31)).toInt8.toInt32).toInt8.toInt32)) 4 (((x2 >>> (24 &&& 31)).toInt8.toInt32).toInt8.toInt32)) 5 (((x2 >>> (16 &&& 31)).toInt8.toInt32).toInt8.toInt32))))) 99 (.inr (13, [.int 0, .int 0, .int 0, .ref 100, .ref 101, .ref 102, .ref 103, .ref 104, .ref 105, .ref 106, .ref 107, .ref 108, .ref 109, .ref 110, .int 6, .int 0, .int 0, .int 0, .int 0, .int 0, .int 0, .int (-1), .int 0, .int 0, .int 0, .ref 111, .ref 112, .int 0, .ref 113, .ref 114, .ref 115, .int 0, .int 0, .ref 116, .ref 117, .ref 118, .ref 119, .ref 120, .ref 121, .ref 122, .ref 123, .ref 124, .ref 125, .ref 126, .ref 127, .ref 128, .ref 129, .ref 130, .ref 131, .int 0, .ref 132, .int 0, .ref 133, .int 0, .ref 134, .ref 135, .ref 136, .ref 137, .ref 138, .ref 139, .ref 140, .ref 141, .ref 142, .ref 143, .ref 144, .ref 145, .ref 146, .int 0, .long 0, .int 0, .int 0, .ref 147]))) 110 (.inl (3, 400, .inl (upd (upd (upd (upd (upd (upd (upd (fun _ => 0) 0 (((x1 >>> (24 &&& 31)).toInt8.toInt32).toInt8.toInt32)) 1 (((x1 >>> (16 &&& 31)).toInt8.toInt32).toInt8.toInt32)) 2 (((x1 >>> (8 &&& 31)).toInt8.toInt32).toInt8.toInt32)) 3 (((x1 >>> (0 &&& 31)).toInt8.toInt32).toInt8.toInt32)) 4 (((x2 >>> (24 &&& 31)).toInt8.toInt32).toInt8.toInt32)) 5 (((x2 >>> (16 &&& 31)).toInt8.toInt32).toInt8.toInt32)) 6 (((x2 >>> (8 &&& 31)).toInt8.toInt32).toInt8.toInt32))))) 99 (.inr (13, [.int 0, .int 0, .int 0, .ref 100, .ref 101, .ref 102, .ref 103, .ref 104, .ref 105, .ref 106, .ref 107, .ref 108, .ref 109, .ref 110, .int 7, .int 0, .int 0, .int 0, .int 0, .int 0, .int 0, .int (-1), .int 0, .int 0, .int 0, .ref 111, .ref 112, .int 0, .ref 113, .ref 114, .ref 115, .int 0, .int 0, .ref 116, .ref 117, .ref 118, .ref 119, .ref 120, .ref 121, .ref 122, .ref 123, .ref 124, .ref 125, .ref 126, .ref 127, .ref 128, .ref 129, .ref 130, .ref 131, .int 0, .ref 132, .int 0, .ref 133, .int 0, .ref 134, .ref 135, .ref 136, .ref 137, .ref 138, .ref 139, .ref 140, .ref 141, .ref 142, .ref 143, .ref 144, .ref 145, .ref 146, .int 0, .long 0, .int 0, .int 0, .ref 147]))) 110 (.inl (3, 400, .inl (upd (upd (upd (upd (upd (upd (upd (upd (fun _ => 0) 0 (((x1 >>> (24 &&& 31)).toInt8.toInt32).toInt8.toInt32)) 1 (((x1 >>> (16 &&& 31)).toInt8.toInt32).toInt8.toInt32)) 2 (((x1 >>> (8 &&& 31)).toInt8.toInt32).toInt8.toInt32)) 3 (((x1 >>> (0 &&& 31)).toInt8.toInt32).toInt8.toInt32)) 4 (((x2 >>> (24 &&& 31)).toInt8.toInt32).toInt8.toInt32)) 5 (((x2 >>> (16 &&& 31)).toInt8.toInt32).toInt8.toInt32)) 6 (((x2 >>> (8 &&& 31)).toInt8.toInt32).toInt8.toInt32)) 7 (((x2 >>> (0 &&& 31)).toInt8.toInt32).toInt8.toInt32))))) 99 (.inr (13, [.int 0, .int 0, .int 0, .ref 100, .ref 101, .ref 102, .ref 103, .ref 104, .ref 105, .ref 106, .ref 107, .ref 108, .ref 109, .ref 110, .int 8, .int 0, .int 0, .int 0, .int 0, .int 0, .int 0, .int (-1), .int 0, .int 0, .int 0, .ref 111, .ref 112, .int 0, .ref 113, .ref 114, .ref 115, .int 0, .int 0, .ref 116, .ref 117, .ref 118, .ref 119, .ref 120, .ref 121, .ref 122, .ref 123, .ref 124, .ref 125, .ref 126, .ref 127, .ref 128, .ref 129, .ref 130, .ref 131, .int 0, .ref 132, .int 0, .ref 133, .int 0, .ref 134, .ref 135, .ref 136, .ref 137, .ref 138, .ref 139, .ref 140, .ref 141, .ref 142, .ref 143, .ref 144, .ref 145, .ref 146, .int 0, .long 0, .int 0, .int 0, .ref 147]))) 110 (.inl (3, 400, .inl (upd (upd (upd (upd (upd (upd (upd (upd (upd (fun _ => 0) 0 (((x1 >>> (24 &&& 31)).toInt8.toInt32).toInt8.toInt32)) 1 (((x1 >>> (16 &&& 31)).toInt8.toInt32).toInt8.toInt32)) 2 (((x1 >>> (8 &&& 31)).toInt8.toInt32).toInt8.toInt32)) 3 (((x1 >>> (0 &&& 31)).toInt8.toInt32).toInt8.toInt32)) 4 (((x2 >>> (24 &&& 31)).toInt8.toInt32).toInt8.toInt32)) 5 (((x2 >>> (16 &&& 31)).toInt8.toInt32).toInt8.toInt32)) 6 (((x2 >>> (8 &&& 31)).toInt8.toInt32).toInt8.toInt32)) 7 (((x2 >>> (0 &&& 31)).toInt8.toInt32).toInt8.toInt32)) 8 (((x3 >>> (24 &&& 31)).toInt8.toInt32).toInt8.toInt32))))) 99 (.inr (13, [.int 0, .int 0, .int 0, .ref 100, .ref 101, .ref 102, .ref 103, .ref 104, .ref 105, .ref 106, .ref 107, .ref 108, .ref 109, .ref 110, .int 9, .int 0, .int 0, .int 0, .int 0, .int 0, .int 0, .int (-1), .int 0, .int 0, .int 0, .ref 111, .ref 112, .int 0, .ref 113, .ref 114, .ref 115, .int 0, .int 0, .ref 116, .ref 117, .ref 118, .ref 119, .ref 120, .ref 121, .ref 122, .ref 123, .ref 124, .ref 125, .ref 126, .ref 127, .ref 128, .ref 129, .ref 130, .ref 131, .int 0, .ref 132, .int 0, .ref 133, .int 0, .ref 134, .ref 135, .ref 136, .ref 137, .ref 138, .ref 139, .ref 140, .ref 141, .ref 142, .ref 143, .ref 144, .ref 145, .ref 146, .int 0, .long 0, .int 0, .int 0, .ref 147]))) 110 (.inl (3, 400, .inl (upd (upd (upd (upd (upd (upd (upd (upd (upd (upd (fun _ => 0) 0 (((x1 >>> (24 &&& 31)).toInt8.toInt32).toInt8.toInt32)) 1 (((x1 >>> (16 &&& 31)).toInt8.toInt32).toInt8.toInt32)) 2 (((x1 >>> (8 &&& 31)).toInt8.toInt32).toInt8.toInt32)) 3 (((x1 >>> (0 &&& 31)).toInt8.toInt32).toInt8.toInt32)) 4 (((x2 >>> (24 &&& 31)).toInt8.toInt32).toInt8.toInt32)) 5 (((x2 >>> (16 &&& 31)).toInt8.toInt32).toInt8.toInt32)) 6 (((x2 >>> (8 &&& 31)).toInt8.toInt32).toInt8.toInt32)) 7 (((x2 >>> (0 &&& 31)).toInt8.toInt32).toInt8.toInt32)) 8 (((x3 >>> (24 &&& 31)).toInt8.toInt32).toInt8.toInt32)) 9 (((x3 >>> (16 &&& 31)).toInt8.toInt32).toInt8.toInt32))))) 99 (.inr (13, [.int 0, .int 0, .int 0, .ref 100, .ref 101, .ref 102, .ref 103, .ref 104, .ref 105, .ref 106, .ref 107, .ref 108, .ref 109, .ref 110, .int 10, .int 0, .int 0, .int 0, .int 0, .int 0, .int 0, .int (-1), .int 0, .int 0, .int 0, .ref 111, .ref 112, .int 0, .ref 113, .ref 114, .ref 115, .int 0, .int 0, .ref 116, .ref 117, .ref 118, .ref 119, .ref 120, .ref 121, .ref 122, .ref 123, .ref 124, .ref 125, .ref 126, .ref 127, .ref 128, .ref 129, .ref 130, .ref 131, .int 0, .ref 132, .int 0, .ref 133, .int 0, .ref 134, .ref 135, .ref 136, .ref 137, .ref 138, .ref 139, .ref 140, .ref 141, .ref 142, .ref 143, .ref 144, .ref 145, .ref 146, .int 0, .long 0, .int 0, .int 0, .ref 147]))) 110 (.inl (3, 400, .inl (upd (upd (upd (upd (upd (upd (upd (upd (upd (upd (upd (fun _ => 0) 0 (((x1 >>> (24 &&& 31)).toInt8.toInt32).toInt8.toInt32)) 1 (((x1 >>> (16 &&& 31)).toInt8.toInt32).toInt8.toInt32)) 2 (((x1 >>> (8 &&& 31)).toInt8.toInt32).toInt8.toInt32)) 3 (((x1 >>> (0 &&& 31)).toInt8.toInt32).toInt8.toInt32)) 4 (((x2 >>> (24 &&& 31)).toInt8.toInt32).toInt8.toInt32)) 5 (((x2 >>> (16 &&& 31)).toInt8.toInt32).toInt8.toInt32)) 6 (((x2 >>> (8 &&& 31)).toInt8.toInt32).toInt8.toInt32)) 7 (((x2 >>> (0 &&& 31)).toInt8.toInt32).toInt8.toInt32)) 8 (((x3 >>> (24 &&& 31)).toInt8.toInt32).toInt8.toInt32)) 9 (((x3 >>> (16 &&& 31)).toInt8.toInt32).toInt8.toInt32)) 10 (((x3 >>> (8 &&& 31)).toInt8.toInt32).toInt8.toInt32))))) 99 (.inr (13, [.int 0, .int 0, .int 0, .ref 100, .ref 101, .ref 102, .ref 103, .ref 104, .ref 105, .ref 106, .ref 107, .ref 108, .ref 109, .ref 110, .int 11, .int 0, .int 0, .int 0, .int 0, .int 0, .int 0, .int (-1), .int 0, .int 0, .int 0, .ref 111, .ref 112, .int 0, .ref 113, .ref 114, .ref 115, .int 0, .int 0, .ref 116, .ref 117, .ref 118, .ref 119, .ref 120, .ref 121, .ref 122, .ref 123, .ref 124, .ref 125, .ref 126, .ref 127, .ref 128, .ref 129, .ref 130, .ref 131, .int 0, .ref 132, .int 0, .ref 133, .int 0, .ref 134, .ref 135, .ref 136, .ref 137, .ref 138, .ref 139, .ref 140, .ref 141, .ref 142, .ref 143, .ref 144, .ref 145, .ref 146, .int 0, .long 0, .int 0, .int 0, .ref 147]))) 110 (.inl (3, 400, .inl (upd (upd (upd (upd (upd (upd (upd (upd (upd (upd (upd (upd (fun _ => 0) 0 (((x1 >>> (24 &&& 31)).toInt8.toInt32).toInt8.toInt32)) 1 (((x1 >>> (16 &&& 31)).toInt8.toInt32).toInt8.toInt32)) 2 (((x1 >>> (8 &&& 31)).toInt8.toInt32).toInt8.toInt32)) 3 (((x1 >>> (0 &&& 31)).toInt8.toInt32).toInt8.toInt32)) 4 (((x2 >>> (24 &&& 31)).toInt8.toInt32).toInt8.toInt32)) 5 (((x2 >>> (16 &&& 31)).toInt8.toInt32).toInt8.toInt32)) 6 (((x2 >>> (8 &&& 31)).toInt8.toInt32).toInt8.toInt32)) 7 (((x2 >>> (0 &&& 31)).toInt8.toInt32).toInt8.toInt32)) 8 (((x3 >>> (24 &&& 31)).toInt8.toInt32).toInt8.toInt32)) 9 (((x3 >>> (16 &&& 31)).toInt8.toInt32).toInt8.toInt32)) 10 (((x3 >>> (8 &&& 31)).toInt8.toInt32).toInt8.toInt32)) 11 (((x3 >>> (0 &&& 31)).toInt8.toInt32).toInt8.toInt32))))) 99 (.inr (13, [.int 0, .int 0, .int 0, .ref 100, .ref 101, .ref 102, .ref 103, .ref 104, .ref 105, .ref 106, .ref 107, .ref 108, .ref 109, .ref 110, .int 12, .int 0, .int 0, .int 0, .int 0, .int 0, .int 0, .int (-1), .int 0, .int 0, .int 0, .ref 111, .ref 112, .int 0, .ref 113, .ref 114, .ref 115, .int 0, .int 0, .ref 116, .ref 117, .ref 118, .ref 119, .ref 120, .ref 121, .ref 122, .ref 123, .ref 124, .ref 125, .ref 126, .ref 127, .ref 128, .ref 129, .ref 130, .ref 131, .int 0, .ref 132, .int 0, .ref 133, .int 0, .ref 134, .ref 135, .ref 136, .ref 137, .ref 138, .ref 139, .ref 140, .ref 141, .ref 142, .ref 143, .ref 144, .ref 145, .ref 146, .int 0, .long 0, .int 0, .int 0, .ref 147]))) 110 (.inl (3, 400, .inl (upd (upd (upd (upd (upd (upd (upd (upd (upd (upd (upd (upd (upd (fun _ => 0) 0 (((x1 >>> (24 &&& 31)).toInt8.toInt32).toInt8.toInt32)) 1 (((x1 >>> (16 &&& 31)).toInt8.toInt32).toInt8.toInt32)) 2 (((x1 >>> (8 &&& 31)).toInt8.toInt32).toInt8.toInt32)) 3 (((x1 >>> (0 &&& 31)).toInt8.toInt32).toInt8.toInt32)) 4 (((x2 >>> (24 &&& 31)).toInt8.toInt32).toInt8.toInt32)) 5 (((x2 >>> (16 &&& 31)).toInt8.toInt32).toInt8.toInt32)) 6 (((x2 >>> (8 &&& 31)).toInt8.toInt32).toInt8.toInt32)) 7 (((x2 >>> (0 &&& 31)).toInt8.toInt32).toInt8.toInt32)) 8 (((x3 >>> (24 &&& 31)).toInt8.toInt32).toInt8.toInt32)) 9 (((x3 >>> (16 &&& 31)).toInt8.toInt32).toInt8.toInt32)) 10 (((x3 >>> (8 &&& 31)).toInt8.toInt32).toInt8.toInt32)) 11 (((x3 >>> (0 &&& 31)).toInt8.toInt32).toInt8.toInt32)) 12 (((x4 >>> (24 &&& 31)).toInt8.toInt32).toInt8.toInt32))))) 99 (.inr (13, [.int 0, .int 0, .int 0, .ref 100, .ref 101, .ref 102, .ref 103, .ref 104, .ref 105, .ref 106, .ref 107, .ref 108, .ref 109, .ref 110, .int 13, .int 0, .int 0, .int 0, .int 0, .int 0, .int 0, .int (-1), .int 0, .int 0, .int 0, .ref 111, .ref 112, .int 0, .ref 113, .ref 114, .ref 115, .int 0, .int 0, .ref 116, .ref 117, .ref 118, .ref 119, .ref 120, .ref 121, .ref 122, .ref 123, .ref 124, .ref 125, .ref 126, .ref 127, .ref 128, .ref 129, .ref 130, .ref 131, .int 0, .ref 132, .int 0, .ref 133, .int 0, .ref 134, .ref 135, .ref 136, .ref 137, .ref 138, .ref 139, .ref 140, .ref 141, .ref 142, .ref 143, .ref 144, .ref 145, .ref 146, .int 0, .long 0, .int 0, .int 0, .ref 147]))) 110 (.inl (3, 400, .inl (upd (upd (upd (upd (upd (upd (upd (upd (upd (upd (upd (upd (upd (upd (fun _ => 0) 0 (((x1 >>> (24 &&& 31)).toInt8.toInt32).toInt8.toInt32)) 1 (((x1 >>> (16 &&& 31)).toInt8.toInt32).toInt8.toInt32)) 2 (((x1 >>> (8 &&& 31)).toInt8.toInt32).toInt8.toInt32)) 3 (((x1 >>> (0 &&& 31)).toInt8.toInt32).toInt8.toInt32)) 4 (((x2 >>> (24 &&& 31)).toInt8.toInt32).toInt8.toInt32)) 5 (((x2 >>> (16 &&& 31)).toInt8.toInt32).toInt8.toInt32)) 6 (((x2 >>> (8 &&& 31)).toInt8.toInt32).toInt8.toInt32)) 7 (((x2 >>> (0 &&& 31)).toInt8.toInt32).toInt8.toInt32)) 8 (((x3 >>> (24 &&& 31)).toInt8.toInt32).toInt8.toInt32)) 9 (((x3 >>> (16 &&& 31)).toInt8.toInt32).toInt8.toInt32)) 10 (((x3 >>> (8 &&& 31)).toInt8.toInt32).toInt8.toInt32)) 11 (((x3 >>> (0 &&& 31)).toInt8.toInt32).toInt8.toInt32)) 12 (((x4 >>> (24 &&& 31)).toInt8.toInt32).toInt8.toInt32)) 13 (((x4 >>> (16 &&& 31)).toInt8.toInt32).toInt8.toInt32))))) 99 (.inr (13, [.int 0, .int 0, .int 0, .ref 100, .ref 101, .ref 102, .ref 103, .ref 104, .ref 105, .ref 106, .ref 107, .ref 108, .ref 109, .ref 110, .int 14, .int 0, .int 0, .int 0, .int 0, .int 0, .int 0, .int (-1), .int 0, .int 0, .int 0, .ref 111, .ref 112, .int 0, .ref 113, .ref 114, .ref 115, .int 0, .int 0, .ref 116, .ref 117, .ref 118, .ref 119, .ref 120, .ref 121, .ref 122, .ref 123, .ref 124, .ref 125, .ref 126, .ref 127, .ref 128, .ref 129, .ref 130, .ref 131, .int 0, .ref 132, .int 0, .ref 133, .int 0, .ref 134, .ref 135, .ref 136, .ref 137, .ref 138, .ref 139, .ref 140, .ref 141, .ref 142, .ref 143, .ref 144, .ref 145, .ref 146, .int 0, .long 0, .int 0, .int 0, .ref 147]))) 110 (.inl (3, 400, .inl (upd (upd (upd (upd (upd (upd (upd (upd (upd (upd (upd (upd (upd (upd (upd (fun _ => 0) 0 (((x1 >>> (24 &&& 31)).toInt8.toInt32).toInt8.toInt32)) 1 (((x1 >>> (16 &&& 31)).toInt8.toInt32).toInt8.toInt32)) 2 (((x1 >>> (8 &&& 31)).toInt8.toInt32).toInt8.toInt32)) 3 (((x1 >>> (0 &&& 31)).toInt8.toInt32).toInt8.toInt32)) 4 (((x2 >>> (24 &&& 31)).toInt8.toInt32).toInt8.toInt32)) 5 (((x2 >>> (16 &&& 31)).toInt8.toInt32).toInt8.toInt32)) 6 (((x2 >>> (8 &&& 31)).toInt8.toInt32).toInt8.toInt32)) 7 (((x2 >>> (0 &&& 31)).toInt8.toInt32).toInt8.toInt32)) 8 (((x3 >>> (24 &&& 31)).toInt8.toInt32).toInt8.toInt32)) 9 (((x3 >>> (16 &&& 31)).toInt8.toInt32).toInt8.toInt32)) 10 (((x3 >>> (8 &&& 31)).toInt8.toInt32).toInt8.toInt32)) 11 (((x3 >>> (0 &&& 31)).toInt8.toInt32).toInt8.toInt32)) 12 (((x4 >>> (24 &&& 31)).toInt8.toInt32).toInt8.toInt32)) 13 (((x4 >>> (16 &&& 31)).toInt8.toInt32).toInt8.toInt32)) 14 (((x4 >>> (8 &&& 31)).toInt8.toInt32).toInt8.toInt32))))) 99 (.inr (13, [.int 0, .int 0, .int 0, .ref 100, .ref 101, .ref 102, .ref 103, .ref 104, .ref 105, .ref 106, .ref 107, .ref 108, .ref 109, .ref 110, .int 15, .int 0, .int 0, .int 0, .int 0, .int 0, .int 0, .int (-1), .int 0, .int 0, .int 0, .ref 111, .ref 112, .int 0, .ref 113, .ref 114, .ref 115, .int 0, .int 0, .ref 116, .ref 117, .ref 118, .ref 119, .ref 120, .ref 121, .ref 122, .ref 123, .ref 124, .ref 125, .ref 126, .ref 127, .ref 128, .ref 129, .ref 130, .ref 131, .int 0, .ref 132, .int 0, .ref 133, .int 0, .ref 134, .ref 135, .ref 136, .ref 137, .ref 138, .ref 139, .ref 140, .ref 141, .ref 142, .ref 143, .ref 144, .ref 145, .ref 146, .int 0, .long 0, .int 0, .int 0, .ref 147]))) 110 (.inl (3, 400, .inl (upd (upd (upd (upd (upd (upd (upd (upd (upd (upd (upd (upd (upd (upd (upd (upd (fun _ => 0) 0 (((x1 >>> (24 &&& 31)).toInt8.toInt32).toInt8.toInt32)) 1 (((x1 >>> (16 &&& 31)).toInt8.toInt32).toInt8.toInt32)) 2 (((x1 >>> (8 &&& 31)).toInt8.toInt32).toInt8.toInt32)) 3 (((x1 >>> (0 &&& 31)).toInt8.toInt32).toInt8.toInt32)) 4 (((x2 >>> (24 &&& 31)).toInt8.toInt32).toInt8.toInt32)) 5 (((x2 >>> (16 &&& 31)).toInt8.toInt32).toInt8.toInt32)) 6 (((x2 >>> (8 &&& 31)).toInt8.toInt32).toInt8.toInt32)) 7 (((x2 >>> (0 &&& 31)).toInt8.toInt32).toInt8.toInt32)) 8 (((x3 >>> (24 &&& 31)).toInt8.toInt32).toInt8.toInt32)) 9 (((x3 >>> (16 &&& 31)).toInt8.toInt32).toInt8.toInt32)) 10 (((x3 >>> (8 &&& 31)).toInt8.toInt32).toInt8.toInt32)) 11 (((x3 >>> (0 &&& 31)).toInt8.toInt32).toInt8.toInt32)) 12 (((x4 >>> (24 &&& 31)).toInt8.toInt32).toInt8.toInt32)) 13 (((x4 >>> (16 &&& 31)).toInt8.toInt32).toInt8.toInt32)) 14 (((x4 >>> (8 &&& 31)).toInt8.toInt32).toInt8.toInt32)) 15 (((x4 >>> (0 &&& 31)).toInt8.toInt32).toInt8.toInt32))))) 99 (.inr (13, [.int 0, .int 0, .int 0, .ref 100, .ref 101, .ref 102, .ref 103, .ref 104, .ref 105, .ref 106, .ref 107, .ref 108, .ref 109, .ref 110, .int 16, .int 0, .int 0, .int 0, .int 0, .int 0, .int 0, .int (-1), .int 0, .int 0, .int 0, .ref 111, .ref 112, .int 0, .ref 113, .ref 114, .ref 115, .int 0, .int 0, .ref 116, .ref 117, .ref 118, .ref 119, .ref 120, .ref 121, .ref 122, .ref 123, .ref 124, .ref 125, .ref 126, .ref 127, .ref 128, .ref 129, .ref 130, .ref 131, .int 0, .ref 132, .int 0, .ref 133, .int 0, .ref 134, .ref 135, .ref 136, .ref 137, .ref 138, .ref 139, .ref 140, .ref 141, .ref 142, .ref 143, .ref 144, .ref 145, .ref 146, .int 0, .long 0, .int 0, .int 0, .ref 147]))) 110 (.inl (3, 400, .inl (upd (upd (upd (upd (upd (upd (upd (upd (upd (upd (upd (upd (upd (upd (upd (upd (upd (fun _ => 0) 0 (((x1 >>> (24 &&& 31)).toInt8.toInt32).toInt8.toInt32)) 1 (((x1 >>> (16 &&& 31)).toInt8.toInt32).toInt8.toInt32)) 2 (((x1 >>> (8 &&& 31)).toInt8.toInt32).toInt8.toInt32)) 3 (((x1 >>> (0 &&& 31)).toInt8.toInt32).toInt8.toInt32)) 4 (((x2 >>> (24 &&& 31)).toInt8.toInt32).toInt8.toInt32)) 5 (((x2 >>> (16 &&& 31)).toInt8.toInt32).toInt8.toInt32)) 6 (((x2 >>> (8 &&& 31)).toInt8.toInt32).toInt8.toInt32)) 7 (((x2 >>> (0 &&& 31)).toInt8.toInt32).toInt8.toInt32)) 8 (((x3 >>> (24 &&& 31)).toInt8.toInt32).toInt8.toInt32)) 9 (((x3 >>> (16 &&& 31)).toInt8.toInt32).toInt8.toInt32)) 10 (((x3 >>> (8 &&& 31)).toInt8.toInt32).toInt8.toInt32)) 11 (((x3 >>> (0 &&& 31)).toInt8.toInt32).toInt8.toInt32)) 12 (((x4 >>> (24 &&& 31)).toInt8.toInt32).toInt8.toInt32)) 13 (((x4 >>> (16 &&& 31)).toInt8.toInt32).toInt8.toInt32)) 14 (((x4 >>> (8 &&& 31)).toInt8.toInt32).toInt8.toInt32)) 15 (((x4 >>> (0 &&& 31)).toInt8.toInt32).toInt8.toInt32)) 16 (((x5 >>> (24 &&& 31)).toInt8.toInt32).toInt8.toInt32))))) 99 (.inr (13, [.int 0, .int 0, .int 0, .ref 100, .ref 101, .ref 102, .ref 103, .ref 104, .ref 105, .ref 106, .ref 107, .ref 108, .ref 109, .ref 110, .int 17, .int 0, .int 0, .int 0, .int 0, .int 0, .int 0, .int (-1), .int 0, .int 0, .int 0, .ref 111, .ref 112, .int 0, .ref 113, .ref 114, .ref 115, .int 0, .int 0, .ref 116, .ref 117, .ref 118, .ref 119, .ref 120, .ref 121, .ref 122, .ref 123, .ref 124, .ref 125, .ref 126, .ref 127, .ref 128, .ref 129, .ref 130, .ref 131, .int 0, .ref 132, .int 0, .ref 133, .int 0, .ref 134, .ref 135, .ref 136, .ref 137, .ref 138, .ref 139, .ref 140, .ref 141, .ref 142, .ref 143, .ref 144, .ref 145, .ref 146, .int 0, .long 0, .int 0, .int 0, .ref 147]))) 110 (.inl (3, 400, .inl (upd (upd (upd (upd (upd (upd (upd (upd (upd (upd (upd (upd (upd (upd (upd (upd (upd (upd (fun _ => 0) 0 (((x1 >>> (24 &&& 31)).toInt8.toInt32).toInt8.toInt32)) 1 (((x1 >>> (16 &&& 31)).toInt8.toInt32).toInt8.toInt32)) 2 (((x1 >>> (8 &&& 31)).toInt8.toInt32).toInt8.toInt32)) 3 (((x1 >>> (0 &&& 31)).toInt8.toInt32).toInt8.toInt32)) 4 (((x2 >>> (24 &&& 31)).toInt8.toInt32).toInt8.toInt32)) 5 (((x2 >>> (16 &&& 31)).toInt8.toInt32).toInt8.toInt32)) 6 (((x2 >>> (8 &&& 31)).toInt8.toInt32).toInt8.toInt32)) 7 (((x2 >>> (0 &&& 31)).toInt8.toInt32).toInt8.toInt32)) 8 (((x3 >>> (24 &&& 31)).toInt8.toInt32).toInt8.toInt32)) 9 (((x3 >>> (16 &&& 31)).toInt8.toInt32).toInt8.toInt32)) 10 (((x3 >>> (8 &&& 31)).toInt8.toInt32).toInt8.toInt32)) 11 (((x3 >>> (0 &&& 31)).toInt8.toInt32).toInt8.toInt32)) 12 (((x4 >>> (24 &&& 31)).toInt8.toInt32).toInt8.toInt32)) 13 (((x4 >>> (16 &&& 31)).toInt8.toInt32).toInt8.toInt32)) 14 (((x4 >>> (8 &&& 31)).toInt8.toInt32).toInt8.toInt32)) 15 (((x4 >>> (0 &&& 31)).toInt8.toInt32).toInt8.toInt32)) 16 (((x5 >>> (24 &&& 31)).toInt8.toInt32).toInt8.toInt32)) 17 (((x5 >>> (16 &&& 31)).toInt8.toInt32).toInt8.toInt32))))) 99 (.inr (13, [.int 0, .int 0, .int 0, .ref 100, .ref 101, .ref 102, .ref 103, .ref 104, .ref 105, .ref 106, .ref 107, .ref 108, .ref 109, .ref 110, .int 18, .int 0, .int 0, .int 0, .int 0, .int 0, .int 0, .int (-1), .int 0, .int 0, .int 0, .ref 111, .ref 112, .int 0, .ref 113, .ref 114, .ref 115, .int 0, .int 0, .ref 116, .ref 117, .ref 118, .ref 119, .ref 120, .ref 121, .ref 122, .ref 123, .ref 124, .ref 125, .ref 126, .ref 127, .ref 128, .ref 129, .ref 130, .ref 131, .int 0, .ref 132, .int 0, .ref 133, .int 0, .ref 134, .ref 135, .ref 136, .ref 137, .ref 138, .ref 139, .ref 140, .ref 141, .ref 142, .ref 143, .ref 144, .ref 145, .ref 146, .int 0, .long 0, .int 0, .int 0, .ref 147]))) 110 (.inl (3, 400, .inl (upd (upd (upd (upd (upd (upd (upd (upd (upd (upd (upd (upd (upd (upd (upd (upd (upd (upd (upd (fun _ => 0) 0 (((x1 >>> (24 &&& 31)).toInt8.toInt32).toInt8.toInt32)) 1 (((x1 >>> (16 &&& 31)).toInt8.toInt32).toInt8.toInt32)) 2 (((x1 >>> (8 &&& 31)).toInt8.toInt32).toInt8.toInt32)) 3 (((x1 >>> (0 &&& 31)).toInt8.toInt32).toInt8.toInt32)) 4 (((x2 >>> (24 &&& 31)).toInt8.toInt32).toInt8.toInt32)) 5 (((x2 >>> (16 &&& 31)).toInt8.toInt32).toInt8.toInt32)) 6 (((x2 >>> (8 &&& 31)).toInt8.toInt32).toInt8.toInt32)) 7 (((x2 >>> (0 &&& 31)).toInt8.toInt32).toInt8.toInt32)) 8 (((x3 >>> (24 &&& 31)).toInt8.toInt32).toInt8.toInt32)) 9 (((x3 >>> (16 &&& 31)).toInt8.toInt32).toInt8.toInt32)) 10 (((x3 >>> (8 &&& 31)).toInt8.toInt32).toInt8.toInt32)) 11 (((x3 >>> (0 &&& 31)).toInt8.toInt32).toInt8.toInt32)) 12 (((x4 >>> (24 &&& 31)).toInt8.toInt32).toInt8.toInt32)) 13 (((x4 >>> (16 &&& 31)).toInt8.toInt32).toInt8.toInt32)) 14 (((x4 >>> (8 &&& 31)).toInt8.toInt32).toInt8.toInt32)) 15 (((x4 >>> (0 &&& 31)).toInt8.toInt32).toInt8.toInt32)) 16 (((x5 >>> (24 &&& 31)).toInt8.toInt32).toInt8.toInt32)) 17 (((x5 >>> (16 &&& 31)).toInt8.toInt32).toInt8.toInt32)) 18 (((x5 >>> (8 &&& 31)).toInt8.toInt32).toInt8.toInt32))))) 99 (.inr (13, [.int 0, .int 0, .int 0, .ref 100, .ref 101, .ref 102, .ref 103, .ref 104, .ref 105, .ref 106, .ref 107, .ref 108, .ref 109, .ref 110, .int 19, .int 0, .int 0, .int 0, .int 0, .int 0, .int 0, .int (-1), .int 0, .int 0, .int 0, .ref 111, .ref 112, .int 0, .ref 113, .ref 114, .ref 115, .int 0, .int 0, .ref 116, .ref 117, .ref 118, .ref 119, .ref 120, .ref 121, .ref 122, .ref 123, .ref 124, .ref 125, .ref 126, .ref 127, .ref 128, .ref 129, .ref 130, .ref 131, .int 0, .ref 132, .int 0, .ref 133, .int 0, .ref 134, .ref 135, .ref 136, .ref 137, .ref 138, .ref 139, .ref 140, .ref 141, .ref 142, .ref 143, .ref 144, .ref 145, .ref 146, .int 0, .long 0, .int 0, .int 0, .ref 147]))) 110 (.inl (3, 400, .inl (upd (upd (upd (upd (upd (upd (upd (upd (upd (upd (upd (upd (upd (upd (upd (upd (upd (upd (upd (upd (fun _ => 0) 0 (((x1 >>> (24 &&& 31)).toInt8.toInt32).toInt8.toInt32)) 1 (((x1 >>> (16 &&& 31)).toInt8.toInt32).toInt8.toInt32)) 2 (((x1 >>> (8 &&& 31)).toInt8.toInt32).toInt8.toInt32)) 3 (((x1 >>> (0 &&& 31)).toInt8.toInt32).toInt8.toInt32)) 4 (((x2 >>> (24 &&& 31)).toInt8.toInt32).toInt8.toInt32)) 5 (((x2 >>> (16 &&& 31)).toInt8.toInt32).toInt8.toInt32)) 6 (((x2 >>> (8 &&& 31)).toInt8.toInt32).toInt8.toInt32)) 7 (((x2 >>> (0 &&& 31)).toInt8.toInt32).toInt8.toInt32)) 8 (((x3 >>> (24 &&& 31)).toInt8.toInt32).toInt8.toInt32)) 9 (((x3 >>> (16 &&& 31)).toInt8.toInt32).toInt8.toInt32)) 10 (((x3 >>> (8 &&& 31)).toInt8.toInt32).toInt8.toInt32)) 11 (((x3 >>> (0 &&& 31)).toInt8.toInt32).toInt8.toInt32)) 12 (((x4 >>> (24 &&& 31)).toInt8.toInt32).toInt8.toInt32)) 13 (((x4 >>> (16 &&& 31)).toInt8.toInt32).toInt8.toInt32)) 14 (((x4 >>> (8 &&& 31)).toInt8.toInt32).toInt8.toInt32)) 15 (((x4 >>> (0 &&& 31)).toInt8.toInt32).toInt8.toInt32)) 16 (((x5 >>> (24 &&& 31)).toInt8.toInt32).toInt8.toInt32)) 17 (((x5 >>> (16 &&& 31)).toInt8.toInt32).toInt8.toInt32)) 18 (((x5 >>> (8 &&& 31)).toInt8.toInt32).toInt8.toInt32)) 19 (((x5 >>> (0 &&& 31)).toInt8.toInt32).toInt8.toInt32))))) 99 (.inr (13, [.int 0, .int 0, .int 0, .ref 100, .ref 101, .ref 102, .ref 103, .ref 104, .ref 105, .ref 106, .ref 107, .ref 108, .ref 109, .ref 110, .int 20, .int 0, .int 0, .int 0, .int 0, .int 0, .int 0, .int (-1), .int 0, .int 0, .int 0, .ref 111, .ref 112, .int 0, .ref 113, .ref 114, .ref 115, .int 0, .int 0, .ref 116, .ref 117, .ref 118, .ref 119, .ref 120, .ref 121, .ref 122, .ref 123, .ref 124, .ref 125, .ref 126, .ref 127, .ref 128, .ref 129, .ref 130, .ref 131, .int 0, .ref 132, .int 0, .ref 133, .int 0, .ref 134, .ref 135, .ref 136, .ref 137, .ref 138, .ref 139, .ref 140, .ref 141, .ref 142, .ref 143, .ref 144, .ref 145, .ref 146, .int 0, .long 0, .int 0, .int 0, .ref 147]))) nx) := by
  refine mj_enter (by decide) (Nat.le_of_ble_eq_true rfl) ?_
  refine mv_aload_n d_TrustDeskModel_feed_0 rfl rfl ?_
  refine mv_iconst (v := 0) d_TrustDeskModel_feed_1 (by decide) ?_
  refine mv_put (fs' := [.int 0, .int 0, .int 0, .ref 100, .ref 101, .ref 102, .ref 103, .ref 104, .ref 105, .ref 106, .ref 107, .ref 108, .ref 109, .ref 110, .int 0, .int 0, .int 0, .int 0, .int 0, .int 0, .int 0, .int (-1), .int 0, .int 0, .int 0, .ref 111, .ref 112, .int 0, .ref 113, .ref 114, .ref 115, .int 0, .int 0, .ref 116, .ref 117, .ref 118, .ref 119, .ref 120, .ref 121, .ref 122, .ref 123, .ref 124, .ref 125, .ref 126, .ref 127, .ref 128, .ref 129, .ref 130, .ref 131, .int 0, .ref 132, .int 0, .ref 133, .int 0, .ref 134, .ref 135, .ref 136, .ref 137, .ref 138, .ref 139, .ref 140, .ref 141, .ref 142, .ref 143, .ref 144, .ref 145, .ref 146, .int 0, .long 0, .int 0, .int 0, .ref 147]) d_TrustDeskModel_feed_2 p_TrustDeskModel_1_13 h_99 (Nat.le_of_ble_eq_true rfl) rfl rfl rfl ?_
  refine mv_aload_n d_TrustDeskModel_feed_5 rfl rfl ?_
  refine mv_get d_TrustDeskModel_feed_6 f_TrustDeskModel_189_13 (mj_up_self _ _ _) rfl ?_
  refine mv_bipush (v := 20) d_TrustDeskModel_feed_9 (by decide) ?_
  refine mv_iaddv (v := 20) d_TrustDeskModel_feed_11 (by decide) ?_
  refine mv_sipush (v := 400) d_TrustDeskModel_feed_12 (by decide) ?_
  refine mv_icmp_le_t (tgt := 20) d_TrustDeskModel_feed_15 (by decide) (by decide) ?_
  refine mv_iconst (v := 0) d_TrustDeskModel_feed_20 (by decide) ?_
  refine mv_istore (lv' := [(6, .int 0), (0, .ref 99), (1, .int x1), (2, .int x2), (3, .int x3), (4, .int x4), (5, .int x5)]) d_TrustDeskModel_feed_21 (by decide) rfl ?_
  refine mv_iload d_TrustDeskModel_feed_23 rfl ?_
  refine mv_bipush (v := 20) d_TrustDeskModel_feed_25 (by decide) ?_
  refine mv_icmp_ge_f (tgt := 117) d_TrustDeskModel_feed_27 (by decide) (by decide) ?_
  refine mv_iload d_TrustDeskModel_feed_30 rfl ?_
  refine mv_iconst (v := 4) d_TrustDeskModel_feed_32 (by decide) ?_
  refine mv_icmp_ge_f (tgt := 40) d_TrustDeskModel_feed_33 (by decide) (by decide) ?_
  refine mv_iload_n d_TrustDeskModel_feed_36 rfl rfl ?_
  refine mv_goto (tgt := 76) d_TrustDeskModel_feed_37 (by decide) ?_
  refine mv_istore (lv' := [(7, .int x1), (6, .int 0), (0, .ref 99), (1, .int x1), (2, .int x2), (3, .int x3), (4, .int x4), (5, .int x5)]) d_TrustDeskModel_feed_76 (by decide) rfl ?_
  refine mv_aload_n d_TrustDeskModel_feed_78 rfl rfl ?_
  refine mv_get d_TrustDeskModel_feed_79 f_TrustDeskModel_44_13 (mj_up_self _ _ _) rfl ?_
  refine mv_aload_n d_TrustDeskModel_feed_82 rfl rfl ?_
  refine mv_get d_TrustDeskModel_feed_83 f_TrustDeskModel_189_13 (mj_up_self _ _ _) rfl ?_
  refine mv_iload d_TrustDeskModel_feed_86 rfl ?_
  refine mv_bipush (v := 24) d_TrustDeskModel_feed_88 (by decide) ?_
  refine mv_bipush (v := 8) d_TrustDeskModel_feed_90 (by decide) ?_
  refine mv_iload d_TrustDeskModel_feed_92 rfl ?_
  refine mv_iconst (v := 4) d_TrustDeskModel_feed_94 (by decide) ?_
  refine mv_iremv (v := 0) d_TrustDeskModel_feed_95 (by decide) (by decide) ?_
  refine mv_imulv (v := 0) d_TrustDeskModel_feed_96 (by decide) ?_
  refine mv_isubv (v := 24) d_TrustDeskModel_feed_97 (by decide) ?_
  refine mv_ishr d_TrustDeskModel_feed_98 ?_
  refine mv_i2b (v := (x1 >>> (24 &&& 31)).toInt8.toInt32) d_TrustDeskModel_feed_99 rfl ?_
  refine mv_bast (f' := (upd (fun _ => 0) 0 (((x1 >>> (24 &&& 31)).toInt8.toInt32).toInt8.toInt32))) d_TrustDeskModel_feed_100 ((mj_up_ne _ _ (Nat.ne_of_beq_eq_false rfl)).trans h_110) (by unfold vp_in; decide) rfl ?_
  refine mv_aload_n d_TrustDeskModel_feed_101 rfl rfl ?_
  refine mv_dup d_TrustDeskModel_feed_102 rfl ?_
  refine mv_get d_TrustDeskModel_feed_103 f_TrustDeskModel_189_13 ((mj_up_ne _ _ (Nat.ne_of_beq_eq_false rfl)).trans (mj_up_self _ _ _)) rfl ?_
  refine mv_iconst (v := 1) d_TrustDeskModel_feed_106 (by decide) ?_
  refine mv_iaddv (v := 1) d_TrustDeskModel_feed_107 (by decide) ?_
  refine mv_put (fs' := [.int 0, .int 0, .int 0, .ref 100, .ref 101, .ref 102, .ref 103, .ref 104, .ref 105, .ref 106, .ref 107, .ref 108, .ref 109, .ref 110, .int 1, .int 0, .int 0, .int 0, .int 0, .int 0, .int 0, .int (-1), .int 0, .int 0, .int 0, .ref 111, .ref 112, .int 0, .ref 113, .ref 114, .ref 115, .int 0, .int 0, .ref 116, .ref 117, .ref 118, .ref 119, .ref 120, .ref 121, .ref 122, .ref 123, .ref 124, .ref 125, .ref 126, .ref 127, .ref 128, .ref 129, .ref 130, .ref 131, .int 0, .ref 132, .int 0, .ref 133, .int 0, .ref 134, .ref 135, .ref 136, .ref 137, .ref 138, .ref 139, .ref 140, .ref 141, .ref 142, .ref 143, .ref 144, .ref 145, .ref 146, .int 0, .long 0, .int 0, .int 0, .ref 147]) d_TrustDeskModel_feed_108 p_TrustDeskModel_189_13 ((mj_up_ne _ _ (Nat.ne_of_beq_eq_false rfl)).trans (mj_up_self _ _ _)) (Nat.le_of_ble_eq_true rfl) rfl rfl rfl ?_
  refine mv_iinc (v := 1) (lv' := [(6, .int 1), (7, .int x1), (0, .ref 99), (1, .int x1), (2, .int x2), (3, .int x3), (4, .int x4), (5, .int x5)]) d_TrustDeskModel_feed_111 rfl (by decide) (by decide) rfl ?_
  refine mv_goto (tgt := 23) d_TrustDeskModel_feed_114 (by decide) ?_
  refine mv_iload d_TrustDeskModel_feed_23 rfl ?_
  refine mv_bipush (v := 20) d_TrustDeskModel_feed_25 (by decide) ?_
  refine mv_icmp_ge_f (tgt := 117) d_TrustDeskModel_feed_27 (by decide) (by decide) ?_
  refine mv_iload d_TrustDeskModel_feed_30 rfl ?_
  refine mv_iconst (v := 4) d_TrustDeskModel_feed_32 (by decide) ?_
  refine mv_icmp_ge_f (tgt := 40) d_TrustDeskModel_feed_33 (by decide) (by decide) ?_
  refine mv_iload_n d_TrustDeskModel_feed_36 rfl rfl ?_
  refine mv_goto (tgt := 76) d_TrustDeskModel_feed_37 (by decide) ?_
  refine mv_istore (lv' := [(7, .int x1), (6, .int 1), (0, .ref 99), (1, .int x1), (2, .int x2), (3, .int x3), (4, .int x4), (5, .int x5)]) d_TrustDeskModel_feed_76 (by decide) rfl ?_
  refine mv_aload_n d_TrustDeskModel_feed_78 rfl rfl ?_
  refine mv_get d_TrustDeskModel_feed_79 f_TrustDeskModel_44_13 (mj_up_self _ _ _) rfl ?_
  refine mv_aload_n d_TrustDeskModel_feed_82 rfl rfl ?_
  refine mv_get d_TrustDeskModel_feed_83 f_TrustDeskModel_189_13 (mj_up_self _ _ _) rfl ?_
  refine mv_iload d_TrustDeskModel_feed_86 rfl ?_
  refine mv_bipush (v := 24) d_TrustDeskModel_feed_88 (by decide) ?_
  refine mv_bipush (v := 8) d_TrustDeskModel_feed_90 (by decide) ?_
  refine mv_iload d_TrustDeskModel_feed_92 rfl ?_
  refine mv_iconst (v := 4) d_TrustDeskModel_feed_94 (by decide) ?_
  refine mv_iremv (v := 1) d_TrustDeskModel_feed_95 (by decide) (by decide) ?_
  refine mv_imulv (v := 8) d_TrustDeskModel_feed_96 (by decide) ?_
  refine mv_isubv (v := 16) d_TrustDeskModel_feed_97 (by decide) ?_
  refine mv_ishr d_TrustDeskModel_feed_98 ?_
  refine mv_i2b (v := (x1 >>> (16 &&& 31)).toInt8.toInt32) d_TrustDeskModel_feed_99 rfl ?_
  refine mv_bast (f' := (upd (upd (fun _ => 0) 0 (((x1 >>> (24 &&& 31)).toInt8.toInt32).toInt8.toInt32)) 1 (((x1 >>> (16 &&& 31)).toInt8.toInt32).toInt8.toInt32))) d_TrustDeskModel_feed_100 ((mj_up_ne _ _ (Nat.ne_of_beq_eq_false rfl)).trans (mj_up_self _ _ _)) (by unfold vp_in; decide) rfl ?_
  refine mv_aload_n d_TrustDeskModel_feed_101 rfl rfl ?_
  refine mv_dup d_TrustDeskModel_feed_102 rfl ?_
  refine mv_get d_TrustDeskModel_feed_103 f_TrustDeskModel_189_13 ((mj_up_ne _ _ (Nat.ne_of_beq_eq_false rfl)).trans (mj_up_self _ _ _)) rfl ?_
  refine mv_iconst (v := 1) d_TrustDeskModel_feed_106 (by decide) ?_
  refine mv_iaddv (v := 2) d_TrustDeskModel_feed_107 (by decide) ?_
  refine mv_put (fs' := [.int 0, .int 0, .int 0, .ref 100, .ref 101, .ref 102, .ref 103, .ref 104, .ref 105, .ref 106, .ref 107, .ref 108, .ref 109, .ref 110, .int 2, .int 0, .int 0, .int 0, .int 0, .int 0, .int 0, .int (-1), .int 0, .int 0, .int 0, .ref 111, .ref 112, .int 0, .ref 113, .ref 114, .ref 115, .int 0, .int 0, .ref 116, .ref 117, .ref 118, .ref 119, .ref 120, .ref 121, .ref 122, .ref 123, .ref 124, .ref 125, .ref 126, .ref 127, .ref 128, .ref 129, .ref 130, .ref 131, .int 0, .ref 132, .int 0, .ref 133, .int 0, .ref 134, .ref 135, .ref 136, .ref 137, .ref 138, .ref 139, .ref 140, .ref 141, .ref 142, .ref 143, .ref 144, .ref 145, .ref 146, .int 0, .long 0, .int 0, .int 0, .ref 147]) d_TrustDeskModel_feed_108 p_TrustDeskModel_189_13 ((mj_up_ne _ _ (Nat.ne_of_beq_eq_false rfl)).trans (mj_up_self _ _ _)) (Nat.le_of_ble_eq_true rfl) rfl rfl rfl ?_
  refine mv_iinc (v := 2) (lv' := [(6, .int 2), (7, .int x1), (0, .ref 99), (1, .int x1), (2, .int x2), (3, .int x3), (4, .int x4), (5, .int x5)]) d_TrustDeskModel_feed_111 rfl (by decide) (by decide) rfl ?_
  refine mv_goto (tgt := 23) d_TrustDeskModel_feed_114 (by decide) ?_
  refine mv_iload d_TrustDeskModel_feed_23 rfl ?_
  refine mv_bipush (v := 20) d_TrustDeskModel_feed_25 (by decide) ?_
  refine mv_icmp_ge_f (tgt := 117) d_TrustDeskModel_feed_27 (by decide) (by decide) ?_
  refine mv_iload d_TrustDeskModel_feed_30 rfl ?_
  refine mv_iconst (v := 4) d_TrustDeskModel_feed_32 (by decide) ?_
  refine mv_icmp_ge_f (tgt := 40) d_TrustDeskModel_feed_33 (by decide) (by decide) ?_
  refine mv_iload_n d_TrustDeskModel_feed_36 rfl rfl ?_
  refine mv_goto (tgt := 76) d_TrustDeskModel_feed_37 (by decide) ?_
  refine mv_istore (lv' := [(7, .int x1), (6, .int 2), (0, .ref 99), (1, .int x1), (2, .int x2), (3, .int x3), (4, .int x4), (5, .int x5)]) d_TrustDeskModel_feed_76 (by decide) rfl ?_
  refine mv_aload_n d_TrustDeskModel_feed_78 rfl rfl ?_
  refine mv_get d_TrustDeskModel_feed_79 f_TrustDeskModel_44_13 (mj_up_self _ _ _) rfl ?_
  refine mv_aload_n d_TrustDeskModel_feed_82 rfl rfl ?_
  refine mv_get d_TrustDeskModel_feed_83 f_TrustDeskModel_189_13 (mj_up_self _ _ _) rfl ?_
  refine mv_iload d_TrustDeskModel_feed_86 rfl ?_
  refine mv_bipush (v := 24) d_TrustDeskModel_feed_88 (by decide) ?_
  refine mv_bipush (v := 8) d_TrustDeskModel_feed_90 (by decide) ?_
  refine mv_iload d_TrustDeskModel_feed_92 rfl ?_
  refine mv_iconst (v := 4) d_TrustDeskModel_feed_94 (by decide) ?_
  refine mv_iremv (v := 2) d_TrustDeskModel_feed_95 (by decide) (by decide) ?_
  refine mv_imulv (v := 16) d_TrustDeskModel_feed_96 (by decide) ?_
  refine mv_isubv (v := 8) d_TrustDeskModel_feed_97 (by decide) ?_
  refine mv_ishr d_TrustDeskModel_feed_98 ?_
  refine mv_i2b (v := (x1 >>> (8 &&& 31)).toInt8.toInt32) d_TrustDeskModel_feed_99 rfl ?_
  refine mv_bast (f' := (upd (upd (upd (fun _ => 0) 0 (((x1 >>> (24 &&& 31)).toInt8.toInt32).toInt8.toInt32)) 1 (((x1 >>> (16 &&& 31)).toInt8.toInt32).toInt8.toInt32)) 2 (((x1 >>> (8 &&& 31)).toInt8.toInt32).toInt8.toInt32))) d_TrustDeskModel_feed_100 ((mj_up_ne _ _ (Nat.ne_of_beq_eq_false rfl)).trans (mj_up_self _ _ _)) (by unfold vp_in; decide) rfl ?_
  refine mv_aload_n d_TrustDeskModel_feed_101 rfl rfl ?_
  refine mv_dup d_TrustDeskModel_feed_102 rfl ?_
  refine mv_get d_TrustDeskModel_feed_103 f_TrustDeskModel_189_13 ((mj_up_ne _ _ (Nat.ne_of_beq_eq_false rfl)).trans (mj_up_self _ _ _)) rfl ?_
  refine mv_iconst (v := 1) d_TrustDeskModel_feed_106 (by decide) ?_
  refine mv_iaddv (v := 3) d_TrustDeskModel_feed_107 (by decide) ?_
  refine mv_put (fs' := [.int 0, .int 0, .int 0, .ref 100, .ref 101, .ref 102, .ref 103, .ref 104, .ref 105, .ref 106, .ref 107, .ref 108, .ref 109, .ref 110, .int 3, .int 0, .int 0, .int 0, .int 0, .int 0, .int 0, .int (-1), .int 0, .int 0, .int 0, .ref 111, .ref 112, .int 0, .ref 113, .ref 114, .ref 115, .int 0, .int 0, .ref 116, .ref 117, .ref 118, .ref 119, .ref 120, .ref 121, .ref 122, .ref 123, .ref 124, .ref 125, .ref 126, .ref 127, .ref 128, .ref 129, .ref 130, .ref 131, .int 0, .ref 132, .int 0, .ref 133, .int 0, .ref 134, .ref 135, .ref 136, .ref 137, .ref 138, .ref 139, .ref 140, .ref 141, .ref 142, .ref 143, .ref 144, .ref 145, .ref 146, .int 0, .long 0, .int 0, .int 0, .ref 147]) d_TrustDeskModel_feed_108 p_TrustDeskModel_189_13 ((mj_up_ne _ _ (Nat.ne_of_beq_eq_false rfl)).trans (mj_up_self _ _ _)) (Nat.le_of_ble_eq_true rfl) rfl rfl rfl ?_
  refine mv_iinc (v := 3) (lv' := [(6, .int 3), (7, .int x1), (0, .ref 99), (1, .int x1), (2, .int x2), (3, .int x3), (4, .int x4), (5, .int x5)]) d_TrustDeskModel_feed_111 rfl (by decide) (by decide) rfl ?_
  refine mv_goto (tgt := 23) d_TrustDeskModel_feed_114 (by decide) ?_
  refine mv_iload d_TrustDeskModel_feed_23 rfl ?_
  refine mv_bipush (v := 20) d_TrustDeskModel_feed_25 (by decide) ?_
  refine mv_icmp_ge_f (tgt := 117) d_TrustDeskModel_feed_27 (by decide) (by decide) ?_
  refine mv_iload d_TrustDeskModel_feed_30 rfl ?_
  refine mv_iconst (v := 4) d_TrustDeskModel_feed_32 (by decide) ?_
  refine mv_icmp_ge_f (tgt := 40) d_TrustDeskModel_feed_33 (by decide) (by decide) ?_
  refine mv_iload_n d_TrustDeskModel_feed_36 rfl rfl ?_
  refine mv_goto (tgt := 76) d_TrustDeskModel_feed_37 (by decide) ?_
  refine mv_istore (lv' := [(7, .int x1), (6, .int 3), (0, .ref 99), (1, .int x1), (2, .int x2), (3, .int x3), (4, .int x4), (5, .int x5)]) d_TrustDeskModel_feed_76 (by decide) rfl ?_
  refine mv_aload_n d_TrustDeskModel_feed_78 rfl rfl ?_
  refine mv_get d_TrustDeskModel_feed_79 f_TrustDeskModel_44_13 (mj_up_self _ _ _) rfl ?_
  refine mv_aload_n d_TrustDeskModel_feed_82 rfl rfl ?_
  refine mv_get d_TrustDeskModel_feed_83 f_TrustDeskModel_189_13 (mj_up_self _ _ _) rfl ?_
  refine mv_iload d_TrustDeskModel_feed_86 rfl ?_
  refine mv_bipush (v := 24) d_TrustDeskModel_feed_88 (by decide) ?_
  refine mv_bipush (v := 8) d_TrustDeskModel_feed_90 (by decide) ?_
  refine mv_iload d_TrustDeskModel_feed_92 rfl ?_
  refine mv_iconst (v := 4) d_TrustDeskModel_feed_94 (by decide) ?_
  refine mv_iremv (v := 3) d_TrustDeskModel_feed_95 (by decide) (by decide) ?_
  refine mv_imulv (v := 24) d_TrustDeskModel_feed_96 (by decide) ?_
  refine mv_isubv (v := 0) d_TrustDeskModel_feed_97 (by decide) ?_
  refine mv_ishr d_TrustDeskModel_feed_98 ?_
  refine mv_i2b (v := (x1 >>> (0 &&& 31)).toInt8.toInt32) d_TrustDeskModel_feed_99 rfl ?_
  refine mv_bast (f' := (upd (upd (upd (upd (fun _ => 0) 0 (((x1 >>> (24 &&& 31)).toInt8.toInt32).toInt8.toInt32)) 1 (((x1 >>> (16 &&& 31)).toInt8.toInt32).toInt8.toInt32)) 2 (((x1 >>> (8 &&& 31)).toInt8.toInt32).toInt8.toInt32)) 3 (((x1 >>> (0 &&& 31)).toInt8.toInt32).toInt8.toInt32))) d_TrustDeskModel_feed_100 ((mj_up_ne _ _ (Nat.ne_of_beq_eq_false rfl)).trans (mj_up_self _ _ _)) (by unfold vp_in; decide) rfl ?_
  refine mv_aload_n d_TrustDeskModel_feed_101 rfl rfl ?_
  refine mv_dup d_TrustDeskModel_feed_102 rfl ?_
  refine mv_get d_TrustDeskModel_feed_103 f_TrustDeskModel_189_13 ((mj_up_ne _ _ (Nat.ne_of_beq_eq_false rfl)).trans (mj_up_self _ _ _)) rfl ?_
  refine mv_iconst (v := 1) d_TrustDeskModel_feed_106 (by decide) ?_
  refine mv_iaddv (v := 4) d_TrustDeskModel_feed_107 (by decide) ?_
  refine mv_put (fs' := [.int 0, .int 0, .int 0, .ref 100, .ref 101, .ref 102, .ref 103, .ref 104, .ref 105, .ref 106, .ref 107, .ref 108, .ref 109, .ref 110, .int 4, .int 0, .int 0, .int 0, .int 0, .int 0, .int 0, .int (-1), .int 0, .int 0, .int 0, .ref 111, .ref 112, .int 0, .ref 113, .ref 114, .ref 115, .int 0, .int 0, .ref 116, .ref 117, .ref 118, .ref 119, .ref 120, .ref 121, .ref 122, .ref 123, .ref 124, .ref 125, .ref 126, .ref 127, .ref 128, .ref 129, .ref 130, .ref 131, .int 0, .ref 132, .int 0, .ref 133, .int 0, .ref 134, .ref 135, .ref 136, .ref 137, .ref 138, .ref 139, .ref 140, .ref 141, .ref 142, .ref 143, .ref 144, .ref 145, .ref 146, .int 0, .long 0, .int 0, .int 0, .ref 147]) d_TrustDeskModel_feed_108 p_TrustDeskModel_189_13 ((mj_up_ne _ _ (Nat.ne_of_beq_eq_false rfl)).trans (mj_up_self _ _ _)) (Nat.le_of_ble_eq_true rfl) rfl rfl rfl ?_
  refine mv_iinc (v := 4) (lv' := [(6, .int 4), (7, .int x1), (0, .ref 99), (1, .int x1), (2, .int x2), (3, .int x3), (4, .int x4), (5, .int x5)]) d_TrustDeskModel_feed_111 rfl (by decide) (by decide) rfl ?_
  refine mv_goto (tgt := 23) d_TrustDeskModel_feed_114 (by decide) ?_
  refine mv_iload d_TrustDeskModel_feed_23 rfl ?_
  refine mv_bipush (v := 20) d_TrustDeskModel_feed_25 (by decide) ?_
  refine mv_icmp_ge_f (tgt := 117) d_TrustDeskModel_feed_27 (by decide) (by decide) ?_
  refine mv_iload d_TrustDeskModel_feed_30 rfl ?_
  refine mv_iconst (v := 4) d_TrustDeskModel_feed_32 (by decide) ?_
  refine mv_icmp_ge_t (tgt := 40) d_TrustDeskModel_feed_33 (by decide) (by decide) ?_
  refine mv_iload d_TrustDeskModel_feed_40 rfl ?_
  refine mv_bipush (v := 8) d_TrustDeskModel_feed_42 (by decide) ?_
  refine mv_icmp_ge_f (tgt := 51) d_TrustDeskModel_feed_44 (by decide) (by decide) ?_
  refine mv_iload_n d_TrustDeskModel_feed_47 rfl rfl ?_
  refine mv_goto (tgt := 76) d_TrustDeskModel_feed_48 (by decide) ?_
  refine mv_istore (lv' := [(7, .int x2), (6, .int 4), (0, .ref 99), (1, .int x1), (2, .int x2), (3, .int x3), (4, .int x4), (5, .int x5)]) d_TrustDeskModel_feed_76 (by decide) rfl ?_
  refine mv_aload_n d_TrustDeskModel_feed_78 rfl rfl ?_
  refine mv_get d_TrustDeskModel_feed_79 f_TrustDeskModel_44_13 (mj_up_self _ _ _) rfl ?_
  refine mv_aload_n d_TrustDeskModel_feed_82 rfl rfl ?_
  refine mv_get d_TrustDeskModel_feed_83 f_TrustDeskModel_189_13 (mj_up_self _ _ _) rfl ?_
  refine mv_iload d_TrustDeskModel_feed_86 rfl ?_
  refine mv_bipush (v := 24) d_TrustDeskModel_feed_88 (by decide) ?_
  refine mv_bipush (v := 8) d_TrustDeskModel_feed_90 (by decide) ?_
  refine mv_iload d_TrustDeskModel_feed_92 rfl ?_
  refine mv_iconst (v := 4) d_TrustDeskModel_feed_94 (by decide) ?_
  refine mv_iremv (v := 0) d_TrustDeskModel_feed_95 (by decide) (by decide) ?_
  refine mv_imulv (v := 0) d_TrustDeskModel_feed_96 (by decide) ?_
  refine mv_isubv (v := 24) d_TrustDeskModel_feed_97 (by decide) ?_
  refine mv_ishr d_TrustDeskModel_feed_98 ?_
  refine mv_i2b (v := (x2 >>> (24 &&& 31)).toInt8.toInt32) d_TrustDeskModel_feed_99 rfl ?_
  refine mv_bast (f' := (upd (upd (upd (upd (upd (fun _ => 0) 0 (((x1 >>> (24 &&& 31)).toInt8.toInt32).toInt8.toInt32)) 1 (((x1 >>> (16 &&& 31)).toInt8.toInt32).toInt8.toInt32)) 2 (((x1 >>> (8 &&& 31)).toInt8.toInt32).toInt8.toInt32)) 3 (((x1 >>> (0 &&& 31)).toInt8.toInt32).toInt8.toInt32)) 4 (((x2 >>> (24 &&& 31)).toInt8.toInt32).toInt8.toInt32))) d_TrustDeskModel_feed_100 ((mj_up_ne _ _ (Nat.ne_of_beq_eq_false rfl)).trans (mj_up_self _ _ _)) (by unfold vp_in; decide) rfl ?_
  refine mv_aload_n d_TrustDeskModel_feed_101 rfl rfl ?_
  refine mv_dup d_TrustDeskModel_feed_102 rfl ?_
  refine mv_get d_TrustDeskModel_feed_103 f_TrustDeskModel_189_13 ((mj_up_ne _ _ (Nat.ne_of_beq_eq_false rfl)).trans (mj_up_self _ _ _)) rfl ?_
  refine mv_iconst (v := 1) d_TrustDeskModel_feed_106 (by decide) ?_
  refine mv_iaddv (v := 5) d_TrustDeskModel_feed_107 (by decide) ?_
  refine mv_put (fs' := [.int 0, .int 0, .int 0, .ref 100, .ref 101, .ref 102, .ref 103, .ref 104, .ref 105, .ref 106, .ref 107, .ref 108, .ref 109, .ref 110, .int 5, .int 0, .int 0, .int 0, .int 0, .int 0, .int 0, .int (-1), .int 0, .int 0, .int 0, .ref 111, .ref 112, .int 0, .ref 113, .ref 114, .ref 115, .int 0, .int 0, .ref 116, .ref 117, .ref 118, .ref 119, .ref 120, .ref 121, .ref 122, .ref 123, .ref 124, .ref 125, .ref 126, .ref 127, .ref 128, .ref 129, .ref 130, .ref 131, .int 0, .ref 132, .int 0, .ref 133, .int 0, .ref 134, .ref 135, .ref 136, .ref 137, .ref 138, .ref 139, .ref 140, .ref 141, .ref 142, .ref 143, .ref 144, .ref 145, .ref 146, .int 0, .long 0, .int 0, .int 0, .ref 147]) d_TrustDeskModel_feed_108 p_TrustDeskModel_189_13 ((mj_up_ne _ _ (Nat.ne_of_beq_eq_false rfl)).trans (mj_up_self _ _ _)) (Nat.le_of_ble_eq_true rfl) rfl rfl rfl ?_
  refine mv_iinc (v := 5) (lv' := [(6, .int 5), (7, .int x2), (0, .ref 99), (1, .int x1), (2, .int x2), (3, .int x3), (4, .int x4), (5, .int x5)]) d_TrustDeskModel_feed_111 rfl (by decide) (by decide) rfl ?_
  refine mv_goto (tgt := 23) d_TrustDeskModel_feed_114 (by decide) ?_
  refine mv_iload d_TrustDeskModel_feed_23 rfl ?_
  refine mv_bipush (v := 20) d_TrustDeskModel_feed_25 (by decide) ?_
  refine mv_icmp_ge_f (tgt := 117) d_TrustDeskModel_feed_27 (by decide) (by decide) ?_
  refine mv_iload d_TrustDeskModel_feed_30 rfl ?_
  refine mv_iconst (v := 4) d_TrustDeskModel_feed_32 (by decide) ?_
  refine mv_icmp_ge_t (tgt := 40) d_TrustDeskModel_feed_33 (by decide) (by decide) ?_
  refine mv_iload d_TrustDeskModel_feed_40 rfl ?_
  refine mv_bipush (v := 8) d_TrustDeskModel_feed_42 (by decide) ?_
  refine mv_icmp_ge_f (tgt := 51) d_TrustDeskModel_feed_44 (by decide) (by decide) ?_
  refine mv_iload_n d_TrustDeskModel_feed_47 rfl rfl ?_
  refine mv_goto (tgt := 76) d_TrustDeskModel_feed_48 (by decide) ?_
  refine mv_istore (lv' := [(7, .int x2), (6, .int 5), (0, .ref 99), (1, .int x1), (2, .int x2), (3, .int x3), (4, .int x4), (5, .int x5)]) d_TrustDeskModel_feed_76 (by decide) rfl ?_
  refine mv_aload_n d_TrustDeskModel_feed_78 rfl rfl ?_
  refine mv_get d_TrustDeskModel_feed_79 f_TrustDeskModel_44_13 (mj_up_self _ _ _) rfl ?_
  refine mv_aload_n d_TrustDeskModel_feed_82 rfl rfl ?_
  refine mv_get d_TrustDeskModel_feed_83 f_TrustDeskModel_189_13 (mj_up_self _ _ _) rfl ?_
  refine mv_iload d_TrustDeskModel_feed_86 rfl ?_
  refine mv_bipush (v := 24) d_TrustDeskModel_feed_88 (by decide) ?_
  refine mv_bipush (v := 8) d_TrustDeskModel_feed_90 (by decide) ?_
  refine mv_iload d_TrustDeskModel_feed_92 rfl ?_
  refine mv_iconst (v := 4) d_TrustDeskModel_feed_94 (by decide) ?_
  refine mv_iremv (v := 1) d_TrustDeskModel_feed_95 (by decide) (by decide) ?_
  refine mv_imulv (v := 8) d_TrustDeskModel_feed_96 (by decide) ?_
  refine mv_isubv (v := 16) d_TrustDeskModel_feed_97 (by decide) ?_
  refine mv_ishr d_TrustDeskModel_feed_98 ?_
  refine mv_i2b (v := (x2 >>> (16 &&& 31)).toInt8.toInt32) d_TrustDeskModel_feed_99 rfl ?_
  refine mv_bast (f' := (upd (upd (upd (upd (upd (upd (fun _ => 0) 0 (((x1 >>> (24 &&& 31)).toInt8.toInt32).toInt8.toInt32)) 1 (((x1 >>> (16 &&& 31)).toInt8.toInt32).toInt8.toInt32)) 2 (((x1 >>> (8 &&& 31)).toInt8.toInt32).toInt8.toInt32)) 3 (((x1 >>> (0 &&& 31)).toInt8.toInt32).toInt8.toInt32)) 4 (((x2 >>> (24 &&& 31)).toInt8.toInt32).toInt8.toInt32)) 5 (((x2 >>> (16 &&& 31)).toInt8.toInt32).toInt8.toInt32))) d_TrustDeskModel_feed_100 ((mj_up_ne _ _ (Nat.ne_of_beq_eq_false rfl)).trans (mj_up_self _ _ _)) (by unfold vp_in; decide) rfl ?_
  refine mv_aload_n d_TrustDeskModel_feed_101 rfl rfl ?_
  refine mv_dup d_TrustDeskModel_feed_102 rfl ?_
  refine mv_get d_TrustDeskModel_feed_103 f_TrustDeskModel_189_13 ((mj_up_ne _ _ (Nat.ne_of_beq_eq_false rfl)).trans (mj_up_self _ _ _)) rfl ?_
  refine mv_iconst (v := 1) d_TrustDeskModel_feed_106 (by decide) ?_
  refine mv_iaddv (v := 6) d_TrustDeskModel_feed_107 (by decide) ?_
  refine mv_put (fs' := [.int 0, .int 0, .int 0, .ref 100, .ref 101, .ref 102, .ref 103, .ref 104, .ref 105, .ref 106, .ref 107, .ref 108, .ref 109, .ref 110, .int 6, .int 0, .int 0, .int 0, .int 0, .int 0, .int 0, .int (-1), .int 0, .int 0, .int 0, .ref 111, .ref 112, .int 0, .ref 113, .ref 114, .ref 115, .int 0, .int 0, .ref 116, .ref 117, .ref 118, .ref 119, .ref 120, .ref 121, .ref 122, .ref 123, .ref 124, .ref 125, .ref 126, .ref 127, .ref 128, .ref 129, .ref 130, .ref 131, .int 0, .ref 132, .int 0, .ref 133, .int 0, .ref 134, .ref 135, .ref 136, .ref 137, .ref 138, .ref 139, .ref 140, .ref 141, .ref 142, .ref 143, .ref 144, .ref 145, .ref 146, .int 0, .long 0, .int 0, .int 0, .ref 147]) d_TrustDeskModel_feed_108 p_TrustDeskModel_189_13 ((mj_up_ne _ _ (Nat.ne_of_beq_eq_false rfl)).trans (mj_up_self _ _ _)) (Nat.le_of_ble_eq_true rfl) rfl rfl rfl ?_
  refine mv_iinc (v := 6) (lv' := [(6, .int 6), (7, .int x2), (0, .ref 99), (1, .int x1), (2, .int x2), (3, .int x3), (4, .int x4), (5, .int x5)]) d_TrustDeskModel_feed_111 rfl (by decide) (by decide) rfl ?_
  refine mv_goto (tgt := 23) d_TrustDeskModel_feed_114 (by decide) ?_
  refine mv_iload d_TrustDeskModel_feed_23 rfl ?_
  refine mv_bipush (v := 20) d_TrustDeskModel_feed_25 (by decide) ?_
  refine mv_icmp_ge_f (tgt := 117) d_TrustDeskModel_feed_27 (by decide) (by decide) ?_
  refine mv_iload d_TrustDeskModel_feed_30 rfl ?_
  refine mv_iconst (v := 4) d_TrustDeskModel_feed_32 (by decide) ?_
  refine mv_icmp_ge_t (tgt := 40) d_TrustDeskModel_feed_33 (by decide) (by decide) ?_
  refine mv_iload d_TrustDeskModel_feed_40 rfl ?_
  refine mv_bipush (v := 8) d_TrustDeskModel_feed_42 (by decide) ?_
  refine mv_icmp_ge_f (tgt := 51) d_TrustDeskModel_feed_44 (by decide) (by decide) ?_
  refine mv_iload_n d_TrustDeskModel_feed_47 rfl rfl ?_
  refine mv_goto (tgt := 76) d_TrustDeskModel_feed_48 (by decide) ?_
  refine mv_istore (lv' := [(7, .int x2), (6, .int 6), (0, .ref 99), (1, .int x1), (2, .int x2), (3, .int x3), (4, .int x4), (5, .int x5)]) d_TrustDeskModel_feed_76 (by decide) rfl ?_
  refine mv_aload_n d_TrustDeskModel_feed_78 rfl rfl ?_
  refine mv_get d_TrustDeskModel_feed_79 f_TrustDeskModel_44_13 (mj_up_self _ _ _) rfl ?_
  refine mv_aload_n d_TrustDeskModel_feed_82 rfl rfl ?_
  refine mv_get d_TrustDeskModel_feed_83 f_TrustDeskModel_189_13 (mj_up_self _ _ _) rfl ?_
  refine mv_iload d_TrustDeskModel_feed_86 rfl ?_
  refine mv_bipush (v := 24) d_TrustDeskModel_feed_88 (by decide) ?_
  refine mv_bipush (v := 8) d_TrustDeskModel_feed_90 (by decide) ?_
  refine mv_iload d_TrustDeskModel_feed_92 rfl ?_
  refine mv_iconst (v := 4) d_TrustDeskModel_feed_94 (by decide) ?_
  refine mv_iremv (v := 2) d_TrustDeskModel_feed_95 (by decide) (by decide) ?_
  refine mv_imulv (v := 16) d_TrustDeskModel_feed_96 (by decide) ?_
  refine mv_isubv (v := 8) d_TrustDeskModel_feed_97 (by decide) ?_
  refine mv_ishr d_TrustDeskModel_feed_98 ?_
  refine mv_i2b (v := (x2 >>> (8 &&& 31)).toInt8.toInt32) d_TrustDeskModel_feed_99 rfl ?_
  refine mv_bast (f' := (upd (upd (upd (upd (upd (upd (upd (fun _ => 0) 0 (((x1 >>> (24 &&& 31)).toInt8.toInt32).toInt8.toInt32)) 1 (((x1 >>> (16 &&& 31)).toInt8.toInt32).toInt8.toInt32)) 2 (((x1 >>> (8 &&& 31)).toInt8.toInt32).toInt8.toInt32)) 3 (((x1 >>> (0 &&& 31)).toInt8.toInt32).toInt8.toInt32)) 4 (((x2 >>> (24 &&& 31)).toInt8.toInt32).toInt8.toInt32)) 5 (((x2 >>> (16 &&& 31)).toInt8.toInt32).toInt8.toInt32)) 6 (((x2 >>> (8 &&& 31)).toInt8.toInt32).toInt8.toInt32))) d_TrustDeskModel_feed_100 ((mj_up_ne _ _ (Nat.ne_of_beq_eq_false rfl)).trans (mj_up_self _ _ _)) (by unfold vp_in; decide) rfl ?_
  refine mv_aload_n d_TrustDeskModel_feed_101 rfl rfl ?_
  refine mv_dup d_TrustDeskModel_feed_102 rfl ?_
  refine mv_get d_TrustDeskModel_feed_103 f_TrustDeskModel_189_13 ((mj_up_ne _ _ (Nat.ne_of_beq_eq_false rfl)).trans (mj_up_self _ _ _)) rfl ?_
  refine mv_iconst (v := 1) d_TrustDeskModel_feed_106 (by decide) ?_
  refine mv_iaddv (v := 7) d_TrustDeskModel_feed_107 (by decide) ?_
  refine mv_put (fs' := [.int 0, .int 0, .int 0, .ref 100, .ref 101, .ref 102, .ref 103, .ref 104, .ref 105, .ref 106, .ref 107, .ref 108, .ref 109, .ref 110, .int 7, .int 0, .int 0, .int 0, .int 0, .int 0, .int 0, .int (-1), .int 0, .int 0, .int 0, .ref 111, .ref 112, .int 0, .ref 113, .ref 114, .ref 115, .int 0, .int 0, .ref 116, .ref 117, .ref 118, .ref 119, .ref 120, .ref 121, .ref 122, .ref 123, .ref 124, .ref 125, .ref 126, .ref 127, .ref 128, .ref 129, .ref 130, .ref 131, .int 0, .ref 132, .int 0, .ref 133, .int 0, .ref 134, .ref 135, .ref 136, .ref 137, .ref 138, .ref 139, .ref 140, .ref 141, .ref 142, .ref 143, .ref 144, .ref 145, .ref 146, .int 0, .long 0, .int 0, .int 0, .ref 147]) d_TrustDeskModel_feed_108 p_TrustDeskModel_189_13 ((mj_up_ne _ _ (Nat.ne_of_beq_eq_false rfl)).trans (mj_up_self _ _ _)) (Nat.le_of_ble_eq_true rfl) rfl rfl rfl ?_
  refine mv_iinc (v := 7) (lv' := [(6, .int 7), (7, .int x2), (0, .ref 99), (1, .int x1), (2, .int x2), (3, .int x3), (4, .int x4), (5, .int x5)]) d_TrustDeskModel_feed_111 rfl (by decide) (by decide) rfl ?_
  refine mv_goto (tgt := 23) d_TrustDeskModel_feed_114 (by decide) ?_
  refine mv_iload d_TrustDeskModel_feed_23 rfl ?_
  refine mv_bipush (v := 20) d_TrustDeskModel_feed_25 (by decide) ?_
  refine mv_icmp_ge_f (tgt := 117) d_TrustDeskModel_feed_27 (by decide) (by decide) ?_
  refine mv_iload d_TrustDeskModel_feed_30 rfl ?_
  refine mv_iconst (v := 4) d_TrustDeskModel_feed_32 (by decide) ?_
  refine mv_icmp_ge_t (tgt := 40) d_TrustDeskModel_feed_33 (by decide) (by decide) ?_
  refine mv_iload d_TrustDeskModel_feed_40 rfl ?_
  refine mv_bipush (v := 8) d_TrustDeskModel_feed_42 (by decide) ?_
  refine mv_icmp_ge_f (tgt := 51) d_TrustDeskModel_feed_44 (by decide) (by decide) ?_
  refine mv_iload_n d_TrustDeskModel_feed_47 rfl rfl ?_
  refine mv_goto (tgt := 76) d_TrustDeskModel_feed_48 (by decide) ?_
  refine mv_istore (lv' := [(7, .int x2), (6, .int 7), (0, .ref 99), (1, .int x1), (2, .int x2), (3, .int x3), (4, .int x4), (5, .int x5)]) d_TrustDeskModel_feed_76 (by decide) rfl ?_
  refine mv_aload_n d_TrustDeskModel_feed_78 rfl rfl ?_
  refine mv_get d_TrustDeskModel_feed_79 f_TrustDeskModel_44_13 (mj_up_self _ _ _) rfl ?_
  refine mv_aload_n d_TrustDeskModel_feed_82 rfl rfl ?_
  refine mv_get d_TrustDeskModel_feed_83 f_TrustDeskModel_189_13 (mj_up_self _ _ _) rfl ?_
  refine mv_iload d_TrustDeskModel_feed_86 rfl ?_
  refine mv_bipush (v := 24) d_TrustDeskModel_feed_88 (by decide) ?_
  refine mv_bipush (v := 8) d_TrustDeskModel_feed_90 (by decide) ?_
  refine mv_iload d_TrustDeskModel_feed_92 rfl ?_
  refine mv_iconst (v := 4) d_TrustDeskModel_feed_94 (by decide) ?_
  refine mv_iremv (v := 3) d_TrustDeskModel_feed_95 (by decide) (by decide) ?_
  refine mv_imulv (v := 24) d_TrustDeskModel_feed_96 (by decide) ?_
  refine mv_isubv (v := 0) d_TrustDeskModel_feed_97 (by decide) ?_
  refine mv_ishr d_TrustDeskModel_feed_98 ?_
  refine mv_i2b (v := (x2 >>> (0 &&& 31)).toInt8.toInt32) d_TrustDeskModel_feed_99 rfl ?_
  refine mv_bast (f' := (upd (upd (upd (upd (upd (upd (upd (upd (fun _ => 0) 0 (((x1 >>> (24 &&& 31)).toInt8.toInt32).toInt8.toInt32)) 1 (((x1 >>> (16 &&& 31)).toInt8.toInt32).toInt8.toInt32)) 2 (((x1 >>> (8 &&& 31)).toInt8.toInt32).toInt8.toInt32)) 3 (((x1 >>> (0 &&& 31)).toInt8.toInt32).toInt8.toInt32)) 4 (((x2 >>> (24 &&& 31)).toInt8.toInt32).toInt8.toInt32)) 5 (((x2 >>> (16 &&& 31)).toInt8.toInt32).toInt8.toInt32)) 6 (((x2 >>> (8 &&& 31)).toInt8.toInt32).toInt8.toInt32)) 7 (((x2 >>> (0 &&& 31)).toInt8.toInt32).toInt8.toInt32))) d_TrustDeskModel_feed_100 ((mj_up_ne _ _ (Nat.ne_of_beq_eq_false rfl)).trans (mj_up_self _ _ _)) (by unfold vp_in; decide) rfl ?_
  refine mv_aload_n d_TrustDeskModel_feed_101 rfl rfl ?_
  refine mv_dup d_TrustDeskModel_feed_102 rfl ?_
  refine mv_get d_TrustDeskModel_feed_103 f_TrustDeskModel_189_13 ((mj_up_ne _ _ (Nat.ne_of_beq_eq_false rfl)).trans (mj_up_self _ _ _)) rfl ?_
  refine mv_iconst (v := 1) d_TrustDeskModel_feed_106 (by decide) ?_
  refine mv_iaddv (v := 8) d_TrustDeskModel_feed_107 (by decide) ?_
  refine mv_put (fs' := [.int 0, .int 0, .int 0, .ref 100, .ref 101, .ref 102, .ref 103, .ref 104, .ref 105, .ref 106, .ref 107, .ref 108, .ref 109, .ref 110, .int 8, .int 0, .int 0, .int 0, .int 0, .int 0, .int 0, .int (-1), .int 0, .int 0, .int 0, .ref 111, .ref 112, .int 0, .ref 113, .ref 114, .ref 115, .int 0, .int 0, .ref 116, .ref 117, .ref 118, .ref 119, .ref 120, .ref 121, .ref 122, .ref 123, .ref 124, .ref 125, .ref 126, .ref 127, .ref 128, .ref 129, .ref 130, .ref 131, .int 0, .ref 132, .int 0, .ref 133, .int 0, .ref 134, .ref 135, .ref 136, .ref 137, .ref 138, .ref 139, .ref 140, .ref 141, .ref 142, .ref 143, .ref 144, .ref 145, .ref 146, .int 0, .long 0, .int 0, .int 0, .ref 147]) d_TrustDeskModel_feed_108 p_TrustDeskModel_189_13 ((mj_up_ne _ _ (Nat.ne_of_beq_eq_false rfl)).trans (mj_up_self _ _ _)) (Nat.le_of_ble_eq_true rfl) rfl rfl rfl ?_
  refine mv_iinc (v := 8) (lv' := [(6, .int 8), (7, .int x2), (0, .ref 99), (1, .int x1), (2, .int x2), (3, .int x3), (4, .int x4), (5, .int x5)]) d_TrustDeskModel_feed_111 rfl (by decide) (by decide) rfl ?_
  refine mv_goto (tgt := 23) d_TrustDeskModel_feed_114 (by decide) ?_
  refine mv_iload d_TrustDeskModel_feed_23 rfl ?_
  refine mv_bipush (v := 20) d_TrustDeskModel_feed_25 (by decide) ?_
  refine mv_icmp_ge_f (tgt := 117) d_TrustDeskModel_feed_27 (by decide) (by decide) ?_
  refine mv_iload d_TrustDeskModel_feed_30 rfl ?_
  refine mv_iconst (v := 4) d_TrustDeskModel_feed_32 (by decide) ?_
  refine mv_icmp_ge_t (tgt := 40) d_TrustDeskModel_feed_33 (by decide) (by decide) ?_
  refine mv_iload d_TrustDeskModel_feed_40 rfl ?_
  refine mv_bipush (v := 8) d_TrustDeskModel_feed_42 (by decide) ?_
  refine mv_icmp_ge_t (tgt := 51) d_TrustDeskModel_feed_44 (by decide) (by decide) ?_
  refine mv_iload d_TrustDeskModel_feed_51 rfl ?_
  refine mv_bipush (v := 12) d_TrustDeskModel_feed_53 (by decide) ?_
  refine mv_icmp_ge_f (tgt := 62) d_TrustDeskModel_feed_55 (by decide) (by decide) ?_
  refine mv_iload_n d_TrustDeskModel_feed_58 rfl rfl ?_
  refine mv_goto (tgt := 76) d_TrustDeskModel_feed_59 (by decide) ?_
  refine mv_istore (lv' := [(7, .int x3), (6, .int 8), (0, .ref 99), (1, .int x1), (2, .int x2), (3, .int x3), (4, .int x4), (5, .int x5)]) d_TrustDeskModel_feed_76 (by decide) rfl ?_
  refine mv_aload_n d_TrustDeskModel_feed_78 rfl rfl ?_
  refine mv_get d_TrustDeskModel_feed_79 f_TrustDeskModel_44_13 (mj_up_self _ _ _) rfl ?_
  refine mv_aload_n d_TrustDeskModel_feed_82 rfl rfl ?_
  refine mv_get d_TrustDeskModel_feed_83 f_TrustDeskModel_189_13 (mj_up_self _ _ _) rfl ?_
  refine mv_iload d_TrustDeskModel_feed_86 rfl ?_
  refine mv_bipush (v := 24) d_TrustDeskModel_feed_88 (by decide) ?_
  refine mv_bipush (v := 8) d_TrustDeskModel_feed_90 (by decide) ?_
  refine mv_iload d_TrustDeskModel_feed_92 rfl ?_
  refine mv_iconst (v := 4) d_TrustDeskModel_feed_94 (by decide) ?_
  refine mv_iremv (v := 0) d_TrustDeskModel_feed_95 (by decide) (by decide) ?_
  refine mv_imulv (v := 0) d_TrustDeskModel_feed_96 (by decide) ?_
  refine mv_isubv (v := 24) d_TrustDeskModel_feed_97 (by decide) ?_
  refine mv_ishr d_TrustDeskModel_feed_98 ?_
  refine mv_i2b (v := (x3 >>> (24 &&& 31)).toInt8.toInt32) d_TrustDeskModel_feed_99 rfl ?_
  refine mv_bast (f' := (upd (upd (upd (upd (upd (upd (upd (upd (upd (fun _ => 0) 0 (((x1 >>> (24 &&& 31)).toInt8.toInt32).toInt8.toInt32)) 1 (((x1 >>> (16 &&& 31)).toInt8.toInt32).toInt8.toInt32)) 2 (((x1 >>> (8 &&& 31)).toInt8.toInt32).toInt8.toInt32)) 3 (((x1 >>> (0 &&& 31)).toInt8.toInt32).toInt8.toInt32)) 4 (((x2 >>> (24 &&& 31)).toInt8.toInt32).toInt8.toInt32)) 5 (((x2 >>> (16 &&& 31)).toInt8.toInt32).toInt8.toInt32)) 6 (((x2 >>> (8 &&& 31)).toInt8.toInt32).toInt8.toInt32)) 7 (((x2 >>> (0 &&& 31)).toInt8.toInt32).toInt8.toInt32)) 8 (((x3 >>> (24 &&& 31)).toInt8.toInt32).toInt8.toInt32))) d_TrustDeskModel_feed_100 ((mj_up_ne _ _ (Nat.ne_of_beq_eq_false rfl)).trans (mj_up_self _ _ _)) (by unfold vp_in; decide) rfl ?_
  refine mv_aload_n d_TrustDeskModel_feed_101 rfl rfl ?_
  refine mv_dup d_TrustDeskModel_feed_102 rfl ?_
  refine mv_get d_TrustDeskModel_feed_103 f_TrustDeskModel_189_13 ((mj_up_ne _ _ (Nat.ne_of_beq_eq_false rfl)).trans (mj_up_self _ _ _)) rfl ?_
  refine mv_iconst (v := 1) d_TrustDeskModel_feed_106 (by decide) ?_
  refine mv_iaddv (v := 9) d_TrustDeskModel_feed_107 (by decide) ?_
  refine mv_put (fs' := [.int 0, .int 0, .int 0, .ref 100, .ref 101, .ref 102, .ref 103, .ref 104, .ref 105, .ref 106, .ref 107, .ref 108, .ref 109, .ref 110, .int 9, .int 0, .int 0, .int 0, .int 0, .int 0, .int 0, .int (-1), .int 0, .int 0, .int 0, .ref 111, .ref 112, .int 0, .ref 113, .ref 114, .ref 115, .int 0, .int 0, .ref 116, .ref 117, .ref 118, .ref 119, .ref 120, .ref 121, .ref 122, .ref 123, .ref 124, .ref 125, .ref 126, .ref 127, .ref 128, .ref 129, .ref 130, .ref 131, .int 0, .ref 132, .int 0, .ref 133, .int 0, .ref 134, .ref 135, .ref 136, .ref 137, .ref 138, .ref 139, .ref 140, .ref 141, .ref 142, .ref 143, .ref 144, .ref 145, .ref 146, .int 0, .long 0, .int 0, .int 0, .ref 147]) d_TrustDeskModel_feed_108 p_TrustDeskModel_189_13 ((mj_up_ne _ _ (Nat.ne_of_beq_eq_false rfl)).trans (mj_up_self _ _ _)) (Nat.le_of_ble_eq_true rfl) rfl rfl rfl ?_
  refine mv_iinc (v := 9) (lv' := [(6, .int 9), (7, .int x3), (0, .ref 99), (1, .int x1), (2, .int x2), (3, .int x3), (4, .int x4), (5, .int x5)]) d_TrustDeskModel_feed_111 rfl (by decide) (by decide) rfl ?_
  refine mv_goto (tgt := 23) d_TrustDeskModel_feed_114 (by decide) ?_
  refine mv_iload d_TrustDeskModel_feed_23 rfl ?_
  refine mv_bipush (v := 20) d_TrustDeskModel_feed_25 (by decide) ?_
  refine mv_icmp_ge_f (tgt := 117) d_TrustDeskModel_feed_27 (by decide) (by decide) ?_
  refine mv_iload d_TrustDeskModel_feed_30 rfl ?_
  refine mv_iconst (v := 4) d_TrustDeskModel_feed_32 (by decide) ?_
  refine mv_icmp_ge_t (tgt := 40) d_TrustDeskModel_feed_33 (by decide) (by decide) ?_
  refine mv_iload d_TrustDeskModel_feed_40 rfl ?_
  refine mv_bipush (v := 8) d_TrustDeskModel_feed_42 (by decide) ?_
  refine mv_icmp_ge_t (tgt := 51) d_TrustDeskModel_feed_44 (by decide) (by decide) ?_
  refine mv_iload d_TrustDeskModel_feed_51 rfl ?_
  refine mv_bipush (v := 12) d_TrustDeskModel_feed_53 (by decide) ?_
  refine mv_icmp_ge_f (tgt := 62) d_TrustDeskModel_feed_55 (by decide) (by decide) ?_
  refine mv_iload_n d_TrustDeskModel_feed_58 rfl rfl ?_
  refine mv_goto (tgt := 76) d_TrustDeskModel_feed_59 (by decide) ?_
  refine mv_istore (lv' := [(7, .int x3), (6, .int 9), (0, .ref 99), (1, .int x1), (2, .int x2), (3, .int x3), (4, .int x4), (5, .int x5)]) d_TrustDeskModel_feed_76 (by decide) rfl ?_
  refine mv_aload_n d_TrustDeskModel_feed_78 rfl rfl ?_
  refine mv_get d_TrustDeskModel_feed_79 f_TrustDeskModel_44_13 (mj_up_self _ _ _) rfl ?_
  refine mv_aload_n d_TrustDeskModel_feed_82 rfl rfl ?_
  refine mv_get d_TrustDeskModel_feed_83 f_TrustDeskModel_189_13 (mj_up_self _ _ _) rfl ?_
  refine mv_iload d_TrustDeskModel_feed_86 rfl ?_
  refine mv_bipush (v := 24) d_TrustDeskModel_feed_88 (by decide) ?_
  refine mv_bipush (v := 8) d_TrustDeskModel_feed_90 (by decide) ?_
  refine mv_iload d_TrustDeskModel_feed_92 rfl ?_
  refine mv_iconst (v := 4) d_TrustDeskModel_feed_94 (by decide) ?_
  refine mv_iremv (v := 1) d_TrustDeskModel_feed_95 (by decide) (by decide) ?_
  refine mv_imulv (v := 8) d_TrustDeskModel_feed_96 (by decide) ?_
  refine mv_isubv (v := 16) d_TrustDeskModel_feed_97 (by decide) ?_
  refine mv_ishr d_TrustDeskModel_feed_98 ?_
  refine mv_i2b (v := (x3 >>> (16 &&& 31)).toInt8.toInt32) d_TrustDeskModel_feed_99 rfl ?_
  refine mv_bast (f' := (upd (upd (upd (upd (upd (upd (upd (upd (upd (upd (fun _ => 0) 0 (((x1 >>> (24 &&& 31)).toInt8.toInt32).toInt8.toInt32)) 1 (((x1 >>> (16 &&& 31)).toInt8.toInt32).toInt8.toInt32)) 2 (((x1 >>> (8 &&& 31)).toInt8.toInt32).toInt8.toInt32)) 3 (((x1 >>> (0 &&& 31)).toInt8.toInt32).toInt8.toInt32)) 4 (((x2 >>> (24 &&& 31)).toInt8.toInt32).toInt8.toInt32)) 5 (((x2 >>> (16 &&& 31)).toInt8.toInt32).toInt8.toInt32)) 6 (((x2 >>> (8 &&& 31)).toInt8.toInt32).toInt8.toInt32)) 7 (((x2 >>> (0 &&& 31)).toInt8.toInt32).toInt8.toInt32)) 8 (((x3 >>> (24 &&& 31)).toInt8.toInt32).toInt8.toInt32)) 9 (((x3 >>> (16 &&& 31)).toInt8.toInt32).toInt8.toInt32))) d_TrustDeskModel_feed_100 ((mj_up_ne _ _ (Nat.ne_of_beq_eq_false rfl)).trans (mj_up_self _ _ _)) (by unfold vp_in; decide) rfl ?_
  refine mv_aload_n d_TrustDeskModel_feed_101 rfl rfl ?_
  refine mv_dup d_TrustDeskModel_feed_102 rfl ?_
  refine mv_get d_TrustDeskModel_feed_103 f_TrustDeskModel_189_13 ((mj_up_ne _ _ (Nat.ne_of_beq_eq_false rfl)).trans (mj_up_self _ _ _)) rfl ?_
  refine mv_iconst (v := 1) d_TrustDeskModel_feed_106 (by decide) ?_
  refine mv_iaddv (v := 10) d_TrustDeskModel_feed_107 (by decide) ?_
  refine mv_put (fs' := [.int 0, .int 0, .int 0, .ref 100, .ref 101, .ref 102, .ref 103, .ref 104, .ref 105, .ref 106, .ref 107, .ref 108, .ref 109, .ref 110, .int 10, .int 0, .int 0, .int 0, .int 0, .int 0, .int 0, .int (-1), .int 0, .int 0, .int 0, .ref 111, .ref 112, .int 0, .ref 113, .ref 114, .ref 115, .int 0, .int 0, .ref 116, .ref 117, .ref 118, .ref 119, .ref 120, .ref 121, .ref 122, .ref 123, .ref 124, .ref 125, .ref 126, .ref 127, .ref 128, .ref 129, .ref 130, .ref 131, .int 0, .ref 132, .int 0, .ref 133, .int 0, .ref 134, .ref 135, .ref 136, .ref 137, .ref 138, .ref 139, .ref 140, .ref 141, .ref 142, .ref 143, .ref 144, .ref 145, .ref 146, .int 0, .long 0, .int 0, .int 0, .ref 147]) d_TrustDeskModel_feed_108 p_TrustDeskModel_189_13 ((mj_up_ne _ _ (Nat.ne_of_beq_eq_false rfl)).trans (mj_up_self _ _ _)) (Nat.le_of_ble_eq_true rfl) rfl rfl rfl ?_
  refine mv_iinc (v := 10) (lv' := [(6, .int 10), (7, .int x3), (0, .ref 99), (1, .int x1), (2, .int x2), (3, .int x3), (4, .int x4), (5, .int x5)]) d_TrustDeskModel_feed_111 rfl (by decide) (by decide) rfl ?_
  refine mv_goto (tgt := 23) d_TrustDeskModel_feed_114 (by decide) ?_
  refine mv_iload d_TrustDeskModel_feed_23 rfl ?_
  refine mv_bipush (v := 20) d_TrustDeskModel_feed_25 (by decide) ?_
  refine mv_icmp_ge_f (tgt := 117) d_TrustDeskModel_feed_27 (by decide) (by decide) ?_
  refine mv_iload d_TrustDeskModel_feed_30 rfl ?_
  refine mv_iconst (v := 4) d_TrustDeskModel_feed_32 (by decide) ?_
  refine mv_icmp_ge_t (tgt := 40) d_TrustDeskModel_feed_33 (by decide) (by decide) ?_
  refine mv_iload d_TrustDeskModel_feed_40 rfl ?_
  refine mv_bipush (v := 8) d_TrustDeskModel_feed_42 (by decide) ?_
  refine mv_icmp_ge_t (tgt := 51) d_TrustDeskModel_feed_44 (by decide) (by decide) ?_
  refine mv_iload d_TrustDeskModel_feed_51 rfl ?_
  refine mv_bipush (v := 12) d_TrustDeskModel_feed_53 (by decide) ?_
  refine mv_icmp_ge_f (tgt := 62) d_TrustDeskModel_feed_55 (by decide) (by decide) ?_
  refine mv_iload_n d_TrustDeskModel_feed_58 rfl rfl ?_
  refine mv_goto (tgt := 76) d_TrustDeskModel_feed_59 (by decide) ?_
  refine mv_istore (lv' := [(7, .int x3), (6, .int 10), (0, .ref 99), (1, .int x1), (2, .int x2), (3, .int x3), (4, .int x4), (5, .int x5)]) d_TrustDeskModel_feed_76 (by decide) rfl ?_
  refine mv_aload_n d_TrustDeskModel_feed_78 rfl rfl ?_
  refine mv_get d_TrustDeskModel_feed_79 f_TrustDeskModel_44_13 (mj_up_self _ _ _) rfl ?_
  refine mv_aload_n d_TrustDeskModel_feed_82 rfl rfl ?_
  refine mv_get d_TrustDeskModel_feed_83 f_TrustDeskModel_189_13 (mj_up_self _ _ _) rfl ?_
  refine mv_iload d_TrustDeskModel_feed_86 rfl ?_
  refine mv_bipush (v := 24) d_TrustDeskModel_feed_88 (by decide) ?_
  refine mv_bipush (v := 8) d_TrustDeskModel_feed_90 (by decide) ?_
  refine mv_iload d_TrustDeskModel_feed_92 rfl ?_
  refine mv_iconst (v := 4) d_TrustDeskModel_feed_94 (by decide) ?_
  refine mv_iremv (v := 2) d_TrustDeskModel_feed_95 (by decide) (by decide) ?_
  refine mv_imulv (v := 16) d_TrustDeskModel_feed_96 (by decide) ?_
  refine mv_isubv (v := 8) d_TrustDeskModel_feed_97 (by decide) ?_
  refine mv_ishr d_TrustDeskModel_feed_98 ?_
  refine mv_i2b (v := (x3 >>> (8 &&& 31)).toInt8.toInt32) d_TrustDeskModel_feed_99 rfl ?_
  refine mv_bast (f' := (upd (upd (upd (upd (upd (upd (upd (upd (upd (upd (upd (fun _ => 0) 0 (((x1 >>> (24 &&& 31)).toInt8.toInt32).toInt8.toInt32)) 1 (((x1 >>> (16 &&& 31)).toInt8.toInt32).toInt8.toInt32)) 2 (((x1 >>> (8 &&& 31)).toInt8.toInt32).toInt8.toInt32)) 3 (((x1 >>> (0 &&& 31)).toInt8.toInt32).toInt8.toInt32)) 4 (((x2 >>> (24 &&& 31)).toInt8.toInt32).toInt8.toInt32)) 5 (((x2 >>> (16 &&& 31)).toInt8.toInt32).toInt8.toInt32)) 6 (((x2 >>> (8 &&& 31)).toInt8.toInt32).toInt8.toInt32)) 7 (((x2 >>> (0 &&& 31)).toInt8.toInt32).toInt8.toInt32)) 8 (((x3 >>> (24 &&& 31)).toInt8.toInt32).toInt8.toInt32)) 9 (((x3 >>> (16 &&& 31)).toInt8.toInt32).toInt8.toInt32)) 10 (((x3 >>> (8 &&& 31)).toInt8.toInt32).toInt8.toInt32))) d_TrustDeskModel_feed_100 ((mj_up_ne _ _ (Nat.ne_of_beq_eq_false rfl)).trans (mj_up_self _ _ _)) (by unfold vp_in; decide) rfl ?_
  refine mv_aload_n d_TrustDeskModel_feed_101 rfl rfl ?_
  refine mv_dup d_TrustDeskModel_feed_102 rfl ?_
  refine mv_get d_TrustDeskModel_feed_103 f_TrustDeskModel_189_13 ((mj_up_ne _ _ (Nat.ne_of_beq_eq_false rfl)).trans (mj_up_self _ _ _)) rfl ?_
  refine mv_iconst (v := 1) d_TrustDeskModel_feed_106 (by decide) ?_
  refine mv_iaddv (v := 11) d_TrustDeskModel_feed_107 (by decide) ?_
  refine mv_put (fs' := [.int 0, .int 0, .int 0, .ref 100, .ref 101, .ref 102, .ref 103, .ref 104, .ref 105, .ref 106, .ref 107, .ref 108, .ref 109, .ref 110, .int 11, .int 0, .int 0, .int 0, .int 0, .int 0, .int 0, .int (-1), .int 0, .int 0, .int 0, .ref 111, .ref 112, .int 0, .ref 113, .ref 114, .ref 115, .int 0, .int 0, .ref 116, .ref 117, .ref 118, .ref 119, .ref 120, .ref 121, .ref 122, .ref 123, .ref 124, .ref 125, .ref 126, .ref 127, .ref 128, .ref 129, .ref 130, .ref 131, .int 0, .ref 132, .int 0, .ref 133, .int 0, .ref 134, .ref 135, .ref 136, .ref 137, .ref 138, .ref 139, .ref 140, .ref 141, .ref 142, .ref 143, .ref 144, .ref 145, .ref 146, .int 0, .long 0, .int 0, .int 0, .ref 147]) d_TrustDeskModel_feed_108 p_TrustDeskModel_189_13 ((mj_up_ne _ _ (Nat.ne_of_beq_eq_false rfl)).trans (mj_up_self _ _ _)) (Nat.le_of_ble_eq_true rfl) rfl rfl rfl ?_
  refine mv_iinc (v := 11) (lv' := [(6, .int 11), (7, .int x3), (0, .ref 99), (1, .int x1), (2, .int x2), (3, .int x3), (4, .int x4), (5, .int x5)]) d_TrustDeskModel_feed_111 rfl (by decide) (by decide) rfl ?_
  refine mv_goto (tgt := 23) d_TrustDeskModel_feed_114 (by decide) ?_
  refine mv_iload d_TrustDeskModel_feed_23 rfl ?_
  refine mv_bipush (v := 20) d_TrustDeskModel_feed_25 (by decide) ?_
  refine mv_icmp_ge_f (tgt := 117) d_TrustDeskModel_feed_27 (by decide) (by decide) ?_
  refine mv_iload d_TrustDeskModel_feed_30 rfl ?_
  refine mv_iconst (v := 4) d_TrustDeskModel_feed_32 (by decide) ?_
  refine mv_icmp_ge_t (tgt := 40) d_TrustDeskModel_feed_33 (by decide) (by decide) ?_
  refine mv_iload d_TrustDeskModel_feed_40 rfl ?_
  refine mv_bipush (v := 8) d_TrustDeskModel_feed_42 (by decide) ?_
  refine mv_icmp_ge_t (tgt := 51) d_TrustDeskModel_feed_44 (by decide) (by decide) ?_
  refine mv_iload d_TrustDeskModel_feed_51 rfl ?_
  refine mv_bipush (v := 12) d_TrustDeskModel_feed_53 (by decide) ?_
  refine mv_icmp_ge_f (tgt := 62) d_TrustDeskModel_feed_55 (by decide) (by decide) ?_
  refine mv_iload_n d_TrustDeskModel_feed_58 rfl rfl ?_
  refine mv_goto (tgt := 76) d_TrustDeskModel_feed_59 (by decide) ?_
  refine mv_istore (lv' := [(7, .int x3), (6, .int 11), (0, .ref 99), (1, .int x1), (2, .int x2), (3, .int x3), (4, .int x4), (5, .int x5)]) d_TrustDeskModel_feed_76 (by decide) rfl ?_
  refine mv_aload_n d_TrustDeskModel_feed_78 rfl rfl ?_
  refine mv_get d_TrustDeskModel_feed_79 f_TrustDeskModel_44_13 (mj_up_self _ _ _) rfl ?_
  refine mv_aload_n d_TrustDeskModel_feed_82 rfl rfl ?_
  refine mv_get d_TrustDeskModel_feed_83 f_TrustDeskModel_189_13 (mj_up_self _ _ _) rfl ?_
  refine mv_iload d_TrustDeskModel_feed_86 rfl ?_
  refine mv_bipush (v := 24) d_TrustDeskModel_feed_88 (by decide) ?_
  refine mv_bipush (v := 8) d_TrustDeskModel_feed_90 (by decide) ?_
  refine mv_iload d_TrustDeskModel_feed_92 rfl ?_
  refine mv_iconst (v := 4) d_TrustDeskModel_feed_94 (by decide) ?_
  refine mv_iremv (v := 3) d_TrustDeskModel_feed_95 (by decide) (by decide) ?_
  refine mv_imulv (v := 24) d_TrustDeskModel_feed_96 (by decide) ?_
  refine mv_isubv (v := 0) d_TrustDeskModel_feed_97 (by decide) ?_
  refine mv_ishr d_TrustDeskModel_feed_98 ?_
  refine mv_i2b (v := (x3 >>> (0 &&& 31)).toInt8.toInt32) d_TrustDeskModel_feed_99 rfl ?_
  refine mv_bast (f' := (upd (upd (upd (upd (upd (upd (upd (upd (upd (upd (upd (upd (fun _ => 0) 0 (((x1 >>> (24 &&& 31)).toInt8.toInt32).toInt8.toInt32)) 1 (((x1 >>> (16 &&& 31)).toInt8.toInt32).toInt8.toInt32)) 2 (((x1 >>> (8 &&& 31)).toInt8.toInt32).toInt8.toInt32)) 3 (((x1 >>> (0 &&& 31)).toInt8.toInt32).toInt8.toInt32)) 4 (((x2 >>> (24 &&& 31)).toInt8.toInt32).toInt8.toInt32)) 5 (((x2 >>> (16 &&& 31)).toInt8.toInt32).toInt8.toInt32)) 6 (((x2 >>> (8 &&& 31)).toInt8.toInt32).toInt8.toInt32)) 7 (((x2 >>> (0 &&& 31)).toInt8.toInt32).toInt8.toInt32)) 8 (((x3 >>> (24 &&& 31)).toInt8.toInt32).toInt8.toInt32)) 9 (((x3 >>> (16 &&& 31)).toInt8.toInt32).toInt8.toInt32)) 10 (((x3 >>> (8 &&& 31)).toInt8.toInt32).toInt8.toInt32)) 11 (((x3 >>> (0 &&& 31)).toInt8.toInt32).toInt8.toInt32))) d_TrustDeskModel_feed_100 ((mj_up_ne _ _ (Nat.ne_of_beq_eq_false rfl)).trans (mj_up_self _ _ _)) (by unfold vp_in; decide) rfl ?_
  refine mv_aload_n d_TrustDeskModel_feed_101 rfl rfl ?_
  refine mv_dup d_TrustDeskModel_feed_102 rfl ?_
  refine mv_get d_TrustDeskModel_feed_103 f_TrustDeskModel_189_13 ((mj_up_ne _ _ (Nat.ne_of_beq_eq_false rfl)).trans (mj_up_self _ _ _)) rfl ?_
  refine mv_iconst (v := 1) d_TrustDeskModel_feed_106 (by decide) ?_
  refine mv_iaddv (v := 12) d_TrustDeskModel_feed_107 (by decide) ?_
  refine mv_put (fs' := [.int 0, .int 0, .int 0, .ref 100, .ref 101, .ref 102, .ref 103, .ref 104, .ref 105, .ref 106, .ref 107, .ref 108, .ref 109, .ref 110, .int 12, .int 0, .int 0, .int 0, .int 0, .int 0, .int 0, .int (-1), .int 0, .int 0, .int 0, .ref 111, .ref 112, .int 0, .ref 113, .ref 114, .ref 115, .int 0, .int 0, .ref 116, .ref 117, .ref 118, .ref 119, .ref 120, .ref 121, .ref 122, .ref 123, .ref 124, .ref 125, .ref 126, .ref 127, .ref 128, .ref 129, .ref 130, .ref 131, .int 0, .ref 132, .int 0, .ref 133, .int 0, .ref 134, .ref 135, .ref 136, .ref 137, .ref 138, .ref 139, .ref 140, .ref 141, .ref 142, .ref 143, .ref 144, .ref 145, .ref 146, .int 0, .long 0, .int 0, .int 0, .ref 147]) d_TrustDeskModel_feed_108 p_TrustDeskModel_189_13 ((mj_up_ne _ _ (Nat.ne_of_beq_eq_false rfl)).trans (mj_up_self _ _ _)) (Nat.le_of_ble_eq_true rfl) rfl rfl rfl ?_
  refine mv_iinc (v := 12) (lv' := [(6, .int 12), (7, .int x3), (0, .ref 99), (1, .int x1), (2, .int x2), (3, .int x3), (4, .int x4), (5, .int x5)]) d_TrustDeskModel_feed_111 rfl (by decide) (by decide) rfl ?_
  refine mv_goto (tgt := 23) d_TrustDeskModel_feed_114 (by decide) ?_
  refine mv_iload d_TrustDeskModel_feed_23 rfl ?_
  refine mv_bipush (v := 20) d_TrustDeskModel_feed_25 (by decide) ?_
  refine mv_icmp_ge_f (tgt := 117) d_TrustDeskModel_feed_27 (by decide) (by decide) ?_
  refine mv_iload d_TrustDeskModel_feed_30 rfl ?_
  refine mv_iconst (v := 4) d_TrustDeskModel_feed_32 (by decide) ?_
  refine mv_icmp_ge_t (tgt := 40) d_TrustDeskModel_feed_33 (by decide) (by decide) ?_
  refine mv_iload d_TrustDeskModel_feed_40 rfl ?_
  refine mv_bipush (v := 8) d_TrustDeskModel_feed_42 (by decide) ?_
  refine mv_icmp_ge_t (tgt := 51) d_TrustDeskModel_feed_44 (by decide) (by decide) ?_
  refine mv_iload d_TrustDeskModel_feed_51 rfl ?_
  refine mv_bipush (v := 12) d_TrustDeskModel_feed_53 (by decide) ?_
  refine mv_icmp_ge_t (tgt := 62) d_TrustDeskModel_feed_55 (by decide) (by decide) ?_
  refine mv_iload d_TrustDeskModel_feed_62 rfl ?_
  refine mv_bipush (v := 16) d_TrustDeskModel_feed_64 (by decide) ?_
  refine mv_icmp_ge_f (tgt := 74) d_TrustDeskModel_feed_66 (by decide) (by decide) ?_
  refine mv_iload d_TrustDeskModel_feed_69 rfl ?_
  refine mv_goto (tgt := 76) d_TrustDeskModel_feed_71 (by decide) ?_
  refine mv_istore (lv' := [(7, .int x4), (6, .int 12), (0, .ref 99), (1, .int x1), (2, .int x2), (3, .int x3), (4, .int x4), (5, .int x5)]) d_TrustDeskModel_feed_76 (by decide) rfl ?_
  refine mv_aload_n d_TrustDeskModel_feed_78 rfl rfl ?_
  refine mv_get d_TrustDeskModel_feed_79 f_TrustDeskModel_44_13 (mj_up_self _ _ _) rfl ?_
  refine mv_aload_n d_TrustDeskModel_feed_82 rfl rfl ?_
  refine mv_get d_TrustDeskModel_feed_83 f_TrustDeskModel_189_13 (mj_up_self _ _ _) rfl ?_
  refine mv_iload d_TrustDeskModel_feed_86 rfl ?_
  refine mv_bipush (v := 24) d_TrustDeskModel_feed_88 (by decide) ?_
  refine mv_bipush (v := 8) d_TrustDeskModel_feed_90 (by decide) ?_
  refine mv_iload d_TrustDeskModel_feed_92 rfl ?_
  refine mv_iconst (v := 4) d_TrustDeskModel_feed_94 (by decide) ?_
  refine mv_iremv (v := 0) d_TrustDeskModel_feed_95 (by decide) (by decide) ?_
  refine mv_imulv (v := 0) d_TrustDeskModel_feed_96 (by decide) ?_
  refine mv_isubv (v := 24) d_TrustDeskModel_feed_97 (by decide) ?_
  refine mv_ishr d_TrustDeskModel_feed_98 ?_
  refine mv_i2b (v := (x4 >>> (24 &&& 31)).toInt8.toInt32) d_TrustDeskModel_feed_99 rfl ?_
  refine mv_bast (f' := (upd (upd (upd (upd (upd (upd (upd (upd (upd (upd (upd (upd (upd (fun _ => 0) 0 (((x1 >>> (24 &&& 31)).toInt8.toInt32).toInt8.toInt32)) 1 (((x1 >>> (16 &&& 31)).toInt8.toInt32).toInt8.toInt32)) 2 (((x1 >>> (8 &&& 31)).toInt8.toInt32).toInt8.toInt32)) 3 (((x1 >>> (0 &&& 31)).toInt8.toInt32).toInt8.toInt32)) 4 (((x2 >>> (24 &&& 31)).toInt8.toInt32).toInt8.toInt32)) 5 (((x2 >>> (16 &&& 31)).toInt8.toInt32).toInt8.toInt32)) 6 (((x2 >>> (8 &&& 31)).toInt8.toInt32).toInt8.toInt32)) 7 (((x2 >>> (0 &&& 31)).toInt8.toInt32).toInt8.toInt32)) 8 (((x3 >>> (24 &&& 31)).toInt8.toInt32).toInt8.toInt32)) 9 (((x3 >>> (16 &&& 31)).toInt8.toInt32).toInt8.toInt32)) 10 (((x3 >>> (8 &&& 31)).toInt8.toInt32).toInt8.toInt32)) 11 (((x3 >>> (0 &&& 31)).toInt8.toInt32).toInt8.toInt32)) 12 (((x4 >>> (24 &&& 31)).toInt8.toInt32).toInt8.toInt32))) d_TrustDeskModel_feed_100 ((mj_up_ne _ _ (Nat.ne_of_beq_eq_false rfl)).trans (mj_up_self _ _ _)) (by unfold vp_in; decide) rfl ?_
  refine mv_aload_n d_TrustDeskModel_feed_101 rfl rfl ?_
  refine mv_dup d_TrustDeskModel_feed_102 rfl ?_
  refine mv_get d_TrustDeskModel_feed_103 f_TrustDeskModel_189_13 ((mj_up_ne _ _ (Nat.ne_of_beq_eq_false rfl)).trans (mj_up_self _ _ _)) rfl ?_
  refine mv_iconst (v := 1) d_TrustDeskModel_feed_106 (by decide) ?_
  refine mv_iaddv (v := 13) d_TrustDeskModel_feed_107 (by decide) ?_
  refine mv_put (fs' := [.int 0, .int 0, .int 0, .ref 100, .ref 101, .ref 102, .ref 103, .ref 104, .ref 105, .ref 106, .ref 107, .ref 108, .ref 109, .ref 110, .int 13, .int 0, .int 0, .int 0, .int 0, .int 0, .int 0, .int (-1), .int 0, .int 0, .int 0, .ref 111, .ref 112, .int 0, .ref 113, .ref 114, .ref 115, .int 0, .int 0, .ref 116, .ref 117, .ref 118, .ref 119, .ref 120, .ref 121, .ref 122, .ref 123, .ref 124, .ref 125, .ref 126, .ref 127, .ref 128, .ref 129, .ref 130, .ref 131, .int 0, .ref 132, .int 0, .ref 133, .int 0, .ref 134, .ref 135, .ref 136, .ref 137, .ref 138, .ref 139, .ref 140, .ref 141, .ref 142, .ref 143, .ref 144, .ref 145, .ref 146, .int 0, .long 0, .int 0, .int 0, .ref 147]) d_TrustDeskModel_feed_108 p_TrustDeskModel_189_13 ((mj_up_ne _ _ (Nat.ne_of_beq_eq_false rfl)).trans (mj_up_self _ _ _)) (Nat.le_of_ble_eq_true rfl) rfl rfl rfl ?_
  refine mv_iinc (v := 13) (lv' := [(6, .int 13), (7, .int x4), (0, .ref 99), (1, .int x1), (2, .int x2), (3, .int x3), (4, .int x4), (5, .int x5)]) d_TrustDeskModel_feed_111 rfl (by decide) (by decide) rfl ?_
  refine mv_goto (tgt := 23) d_TrustDeskModel_feed_114 (by decide) ?_
  refine mv_iload d_TrustDeskModel_feed_23 rfl ?_
  refine mv_bipush (v := 20) d_TrustDeskModel_feed_25 (by decide) ?_
  refine mv_icmp_ge_f (tgt := 117) d_TrustDeskModel_feed_27 (by decide) (by decide) ?_
  refine mv_iload d_TrustDeskModel_feed_30 rfl ?_
  refine mv_iconst (v := 4) d_TrustDeskModel_feed_32 (by decide) ?_
  refine mv_icmp_ge_t (tgt := 40) d_TrustDeskModel_feed_33 (by decide) (by decide) ?_
  refine mv_iload d_TrustDeskModel_feed_40 rfl ?_
  refine mv_bipush (v := 8) d_TrustDeskModel_feed_42 (by decide) ?_
  refine mv_icmp_ge_t (tgt := 51) d_TrustDeskModel_feed_44 (by decide) (by decide) ?_
  refine mv_iload d_TrustDeskModel_feed_51 rfl ?_
  refine mv_bipush (v := 12) d_TrustDeskModel_feed_53 (by decide) ?_
  refine mv_icmp_ge_t (tgt := 62) d_TrustDeskModel_feed_55 (by decide) (by decide) ?_
  refine mv_iload d_TrustDeskModel_feed_62 rfl ?_
  refine mv_bipush (v := 16) d_TrustDeskModel_feed_64 (by decide) ?_
  refine mv_icmp_ge_f (tgt := 74) d_TrustDeskModel_feed_66 (by decide) (by decide) ?_
  refine mv_iload d_TrustDeskModel_feed_69 rfl ?_
  refine mv_goto (tgt := 76) d_TrustDeskModel_feed_71 (by decide) ?_
  refine mv_istore (lv' := [(7, .int x4), (6, .int 13), (0, .ref 99), (1, .int x1), (2, .int x2), (3, .int x3), (4, .int x4), (5, .int x5)]) d_TrustDeskModel_feed_76 (by decide) rfl ?_
  refine mv_aload_n d_TrustDeskModel_feed_78 rfl rfl ?_
  refine mv_get d_TrustDeskModel_feed_79 f_TrustDeskModel_44_13 (mj_up_self _ _ _) rfl ?_
  refine mv_aload_n d_TrustDeskModel_feed_82 rfl rfl ?_
  refine mv_get d_TrustDeskModel_feed_83 f_TrustDeskModel_189_13 (mj_up_self _ _ _) rfl ?_
  refine mv_iload d_TrustDeskModel_feed_86 rfl ?_
  refine mv_bipush (v := 24) d_TrustDeskModel_feed_88 (by decide) ?_
  refine mv_bipush (v := 8) d_TrustDeskModel_feed_90 (by decide) ?_
  refine mv_iload d_TrustDeskModel_feed_92 rfl ?_
  refine mv_iconst (v := 4) d_TrustDeskModel_feed_94 (by decide) ?_
  refine mv_iremv (v := 1) d_TrustDeskModel_feed_95 (by decide) (by decide) ?_
  refine mv_imulv (v := 8) d_TrustDeskModel_feed_96 (by decide) ?_
  refine mv_isubv (v := 16) d_TrustDeskModel_feed_97 (by decide) ?_
  refine mv_ishr d_TrustDeskModel_feed_98 ?_
  refine mv_i2b (v := (x4 >>> (16 &&& 31)).toInt8.toInt32) d_TrustDeskModel_feed_99 rfl ?_
  refine mv_bast (f' := (upd (upd (upd (upd (upd (upd (upd (upd (upd (upd (upd (upd (upd (upd (fun _ => 0) 0 (((x1 >>> (24 &&& 31)).toInt8.toInt32).toInt8.toInt32)) 1 (((x1 >>> (16 &&& 31)).toInt8.toInt32).toInt8.toInt32)) 2 (((x1 >>> (8 &&& 31)).toInt8.toInt32).toInt8.toInt32)) 3 (((x1 >>> (0 &&& 31)).toInt8.toInt32).toInt8.toInt32)) 4 (((x2 >>> (24 &&& 31)).toInt8.toInt32).toInt8.toInt32)) 5 (((x2 >>> (16 &&& 31)).toInt8.toInt32).toInt8.toInt32)) 6 (((x2 >>> (8 &&& 31)).toInt8.toInt32).toInt8.toInt32)) 7 (((x2 >>> (0 &&& 31)).toInt8.toInt32).toInt8.toInt32)) 8 (((x3 >>> (24 &&& 31)).toInt8.toInt32).toInt8.toInt32)) 9 (((x3 >>> (16 &&& 31)).toInt8.toInt32).toInt8.toInt32)) 10 (((x3 >>> (8 &&& 31)).toInt8.toInt32).toInt8.toInt32)) 11 (((x3 >>> (0 &&& 31)).toInt8.toInt32).toInt8.toInt32)) 12 (((x4 >>> (24 &&& 31)).toInt8.toInt32).toInt8.toInt32)) 13 (((x4 >>> (16 &&& 31)).toInt8.toInt32).toInt8.toInt32))) d_TrustDeskModel_feed_100 ((mj_up_ne _ _ (Nat.ne_of_beq_eq_false rfl)).trans (mj_up_self _ _ _)) (by unfold vp_in; decide) rfl ?_
  refine mv_aload_n d_TrustDeskModel_feed_101 rfl rfl ?_
  refine mv_dup d_TrustDeskModel_feed_102 rfl ?_
  refine mv_get d_TrustDeskModel_feed_103 f_TrustDeskModel_189_13 ((mj_up_ne _ _ (Nat.ne_of_beq_eq_false rfl)).trans (mj_up_self _ _ _)) rfl ?_
  refine mv_iconst (v := 1) d_TrustDeskModel_feed_106 (by decide) ?_
  refine mv_iaddv (v := 14) d_TrustDeskModel_feed_107 (by decide) ?_
  refine mv_put (fs' := [.int 0, .int 0, .int 0, .ref 100, .ref 101, .ref 102, .ref 103, .ref 104, .ref 105, .ref 106, .ref 107, .ref 108, .ref 109, .ref 110, .int 14, .int 0, .int 0, .int 0, .int 0, .int 0, .int 0, .int (-1), .int 0, .int 0, .int 0, .ref 111, .ref 112, .int 0, .ref 113, .ref 114, .ref 115, .int 0, .int 0, .ref 116, .ref 117, .ref 118, .ref 119, .ref 120, .ref 121, .ref 122, .ref 123, .ref 124, .ref 125, .ref 126, .ref 127, .ref 128, .ref 129, .ref 130, .ref 131, .int 0, .ref 132, .int 0, .ref 133, .int 0, .ref 134, .ref 135, .ref 136, .ref 137, .ref 138, .ref 139, .ref 140, .ref 141, .ref 142, .ref 143, .ref 144, .ref 145, .ref 146, .int 0, .long 0, .int 0, .int 0, .ref 147]) d_TrustDeskModel_feed_108 p_TrustDeskModel_189_13 ((mj_up_ne _ _ (Nat.ne_of_beq_eq_false rfl)).trans (mj_up_self _ _ _)) (Nat.le_of_ble_eq_true rfl) rfl rfl rfl ?_
  refine mv_iinc (v := 14) (lv' := [(6, .int 14), (7, .int x4), (0, .ref 99), (1, .int x1), (2, .int x2), (3, .int x3), (4, .int x4), (5, .int x5)]) d_TrustDeskModel_feed_111 rfl (by decide) (by decide) rfl ?_
  refine mv_goto (tgt := 23) d_TrustDeskModel_feed_114 (by decide) ?_
  refine mv_iload d_TrustDeskModel_feed_23 rfl ?_
  refine mv_bipush (v := 20) d_TrustDeskModel_feed_25 (by decide) ?_
  refine mv_icmp_ge_f (tgt := 117) d_TrustDeskModel_feed_27 (by decide) (by decide) ?_
  refine mv_iload d_TrustDeskModel_feed_30 rfl ?_
  refine mv_iconst (v := 4) d_TrustDeskModel_feed_32 (by decide) ?_
  refine mv_icmp_ge_t (tgt := 40) d_TrustDeskModel_feed_33 (by decide) (by decide) ?_
  refine mv_iload d_TrustDeskModel_feed_40 rfl ?_
  refine mv_bipush (v := 8) d_TrustDeskModel_feed_42 (by decide) ?_
  refine mv_icmp_ge_t (tgt := 51) d_TrustDeskModel_feed_44 (by decide) (by decide) ?_
  refine mv_iload d_TrustDeskModel_feed_51 rfl ?_
  refine mv_bipush (v := 12) d_TrustDeskModel_feed_53 (by decide) ?_
  refine mv_icmp_ge_t (tgt := 62) d_TrustDeskModel_feed_55 (by decide) (by decide) ?_
  refine mv_iload d_TrustDeskModel_feed_62 rfl ?_
  refine mv_bipush (v := 16) d_TrustDeskModel_feed_64 (by decide) ?_
  refine mv_icmp_ge_f (tgt := 74) d_TrustDeskModel_feed_66 (by decide) (by decide) ?_
  refine mv_iload d_TrustDeskModel_feed_69 rfl ?_
  refine mv_goto (tgt := 76) d_TrustDeskModel_feed_71 (by decide) ?_
  refine mv_istore (lv' := [(7, .int x4), (6, .int 14), (0, .ref 99), (1, .int x1), (2, .int x2), (3, .int x3), (4, .int x4), (5, .int x5)]) d_TrustDeskModel_feed_76 (by decide) rfl ?_
  refine mv_aload_n d_TrustDeskModel_feed_78 rfl rfl ?_
  refine mv_get d_TrustDeskModel_feed_79 f_TrustDeskModel_44_13 (mj_up_self _ _ _) rfl ?_
  refine mv_aload_n d_TrustDeskModel_feed_82 rfl rfl ?_
  refine mv_get d_TrustDeskModel_feed_83 f_TrustDeskModel_189_13 (mj_up_self _ _ _) rfl ?_
  refine mv_iload d_TrustDeskModel_feed_86 rfl ?_
  refine mv_bipush (v := 24) d_TrustDeskModel_feed_88 (by decide) ?_
  refine mv_bipush (v := 8) d_TrustDeskModel_feed_90 (by decide) ?_
  refine mv_iload d_TrustDeskModel_feed_92 rfl ?_
  refine mv_iconst (v := 4) d_TrustDeskModel_feed_94 (by decide) ?_
  refine mv_iremv (v := 2) d_TrustDeskModel_feed_95 (by decide) (by decide) ?_
  refine mv_imulv (v := 16) d_TrustDeskModel_feed_96 (by decide) ?_
  refine mv_isubv (v := 8) d_TrustDeskModel_feed_97 (by decide) ?_
  refine mv_ishr d_TrustDeskModel_feed_98 ?_
  refine mv_i2b (v := (x4 >>> (8 &&& 31)).toInt8.toInt32) d_TrustDeskModel_feed_99 rfl ?_
  refine mv_bast (f' := (upd (upd (upd (upd (upd (upd (upd (upd (upd (upd (upd (upd (upd (upd (upd (fun _ => 0) 0 (((x1 >>> (24 &&& 31)).toInt8.toInt32).toInt8.toInt32)) 1 (((x1 >>> (16 &&& 31)).toInt8.toInt32).toInt8.toInt32)) 2 (((x1 >>> (8 &&& 31)).toInt8.toInt32).toInt8.toInt32)) 3 (((x1 >>> (0 &&& 31)).toInt8.toInt32).toInt8.toInt32)) 4 (((x2 >>> (24 &&& 31)).toInt8.toInt32).toInt8.toInt32)) 5 (((x2 >>> (16 &&& 31)).toInt8.toInt32).toInt8.toInt32)) 6 (((x2 >>> (8 &&& 31)).toInt8.toInt32).toInt8.toInt32)) 7 (((x2 >>> (0 &&& 31)).toInt8.toInt32).toInt8.toInt32)) 8 (((x3 >>> (24 &&& 31)).toInt8.toInt32).toInt8.toInt32)) 9 (((x3 >>> (16 &&& 31)).toInt8.toInt32).toInt8.toInt32)) 10 (((x3 >>> (8 &&& 31)).toInt8.toInt32).toInt8.toInt32)) 11 (((x3 >>> (0 &&& 31)).toInt8.toInt32).toInt8.toInt32)) 12 (((x4 >>> (24 &&& 31)).toInt8.toInt32).toInt8.toInt32)) 13 (((x4 >>> (16 &&& 31)).toInt8.toInt32).toInt8.toInt32)) 14 (((x4 >>> (8 &&& 31)).toInt8.toInt32).toInt8.toInt32))) d_TrustDeskModel_feed_100 ((mj_up_ne _ _ (Nat.ne_of_beq_eq_false rfl)).trans (mj_up_self _ _ _)) (by unfold vp_in; decide) rfl ?_
  refine mv_aload_n d_TrustDeskModel_feed_101 rfl rfl ?_
  refine mv_dup d_TrustDeskModel_feed_102 rfl ?_
  refine mv_get d_TrustDeskModel_feed_103 f_TrustDeskModel_189_13 ((mj_up_ne _ _ (Nat.ne_of_beq_eq_false rfl)).trans (mj_up_self _ _ _)) rfl ?_
  refine mv_iconst (v := 1) d_TrustDeskModel_feed_106 (by decide) ?_
  refine mv_iaddv (v := 15) d_TrustDeskModel_feed_107 (by decide) ?_
  refine mv_put (fs' := [.int 0, .int 0, .int 0, .ref 100, .ref 101, .ref 102, .ref 103, .ref 104, .ref 105, .ref 106, .ref 107, .ref 108, .ref 109, .ref 110, .int 15, .int 0, .int 0, .int 0, .int 0, .int 0, .int 0, .int (-1), .int 0, .int 0, .int 0, .ref 111, .ref 112, .int 0, .ref 113, .ref 114, .ref 115, .int 0, .int 0, .ref 116, .ref 117, .ref 118, .ref 119, .ref 120, .ref 121, .ref 122, .ref 123, .ref 124, .ref 125, .ref 126, .ref 127, .ref 128, .ref 129, .ref 130, .ref 131, .int 0, .ref 132, .int 0, .ref 133, .int 0, .ref 134, .ref 135, .ref 136, .ref 137, .ref 138, .ref 139, .ref 140, .ref 141, .ref 142, .ref 143, .ref 144, .ref 145, .ref 146, .int 0, .long 0, .int 0, .int 0, .ref 147]) d_TrustDeskModel_feed_108 p_TrustDeskModel_189_13 ((mj_up_ne _ _ (Nat.ne_of_beq_eq_false rfl)).trans (mj_up_self _ _ _)) (Nat.le_of_ble_eq_true rfl) rfl rfl rfl ?_
  refine mv_iinc (v := 15) (lv' := [(6, .int 15), (7, .int x4), (0, .ref 99), (1, .int x1), (2, .int x2), (3, .int x3), (4, .int x4), (5, .int x5)]) d_TrustDeskModel_feed_111 rfl (by decide) (by decide) rfl ?_
  refine mv_goto (tgt := 23) d_TrustDeskModel_feed_114 (by decide) ?_
  refine mv_iload d_TrustDeskModel_feed_23 rfl ?_
  refine mv_bipush (v := 20) d_TrustDeskModel_feed_25 (by decide) ?_
  refine mv_icmp_ge_f (tgt := 117) d_TrustDeskModel_feed_27 (by decide) (by decide) ?_
  refine mv_iload d_TrustDeskModel_feed_30 rfl ?_
  refine mv_iconst (v := 4) d_TrustDeskModel_feed_32 (by decide) ?_
  refine mv_icmp_ge_t (tgt := 40) d_TrustDeskModel_feed_33 (by decide) (by decide) ?_
  refine mv_iload d_TrustDeskModel_feed_40 rfl ?_
  refine mv_bipush (v := 8) d_TrustDeskModel_feed_42 (by decide) ?_
  refine mv_icmp_ge_t (tgt := 51) d_TrustDeskModel_feed_44 (by decide) (by decide) ?_
  refine mv_iload d_TrustDeskModel_feed_51 rfl ?_
  refine mv_bipush (v := 12) d_TrustDeskModel_feed_53 (by decide) ?_
  refine mv_icmp_ge_t (tgt := 62) d_TrustDeskModel_feed_55 (by decide) (by decide) ?_
  refine mv_iload d_TrustDeskModel_feed_62 rfl ?_
  refine mv_bipush (v := 16) d_TrustDeskModel_feed_64 (by decide) ?_
  refine mv_icmp_ge_f (tgt := 74) d_TrustDeskModel_feed_66 (by decide) (by decide) ?_
  refine mv_iload d_TrustDeskModel_feed_69 rfl ?_
  refine mv_goto (tgt := 76) d_TrustDeskModel_feed_71 (by decide) ?_
  refine mv_istore (lv' := [(7, .int x4), (6, .int 15), (0, .ref 99), (1, .int x1), (2, .int x2), (3, .int x3), (4, .int x4), (5, .int x5)]) d_TrustDeskModel_feed_76 (by decide) rfl ?_
  refine mv_aload_n d_TrustDeskModel_feed_78 rfl rfl ?_
  refine mv_get d_TrustDeskModel_feed_79 f_TrustDeskModel_44_13 (mj_up_self _ _ _) rfl ?_
  refine mv_aload_n d_TrustDeskModel_feed_82 rfl rfl ?_
  refine mv_get d_TrustDeskModel_feed_83 f_TrustDeskModel_189_13 (mj_up_self _ _ _) rfl ?_
  refine mv_iload d_TrustDeskModel_feed_86 rfl ?_
  refine mv_bipush (v := 24) d_TrustDeskModel_feed_88 (by decide) ?_
  refine mv_bipush (v := 8) d_TrustDeskModel_feed_90 (by decide) ?_
  refine mv_iload d_TrustDeskModel_feed_92 rfl ?_
  refine mv_iconst (v := 4) d_TrustDeskModel_feed_94 (by decide) ?_
  refine mv_iremv (v := 3) d_TrustDeskModel_feed_95 (by decide) (by decide) ?_
  refine mv_imulv (v := 24) d_TrustDeskModel_feed_96 (by decide) ?_
  refine mv_isubv (v := 0) d_TrustDeskModel_feed_97 (by decide) ?_
  refine mv_ishr d_TrustDeskModel_feed_98 ?_
  refine mv_i2b (v := (x4 >>> (0 &&& 31)).toInt8.toInt32) d_TrustDeskModel_feed_99 rfl ?_
  refine mv_bast (f' := (upd (upd (upd (upd (upd (upd (upd (upd (upd (upd (upd (upd (upd (upd (upd (upd (fun _ => 0) 0 (((x1 >>> (24 &&& 31)).toInt8.toInt32).toInt8.toInt32)) 1 (((x1 >>> (16 &&& 31)).toInt8.toInt32).toInt8.toInt32)) 2 (((x1 >>> (8 &&& 31)).toInt8.toInt32).toInt8.toInt32)) 3 (((x1 >>> (0 &&& 31)).toInt8.toInt32).toInt8.toInt32)) 4 (((x2 >>> (24 &&& 31)).toInt8.toInt32).toInt8.toInt32)) 5 (((x2 >>> (16 &&& 31)).toInt8.toInt32).toInt8.toInt32)) 6 (((x2 >>> (8 &&& 31)).toInt8.toInt32).toInt8.toInt32)) 7 (((x2 >>> (0 &&& 31)).toInt8.toInt32).toInt8.toInt32)) 8 (((x3 >>> (24 &&& 31)).toInt8.toInt32).toInt8.toInt32)) 9 (((x3 >>> (16 &&& 31)).toInt8.toInt32).toInt8.toInt32)) 10 (((x3 >>> (8 &&& 31)).toInt8.toInt32).toInt8.toInt32)) 11 (((x3 >>> (0 &&& 31)).toInt8.toInt32).toInt8.toInt32)) 12 (((x4 >>> (24 &&& 31)).toInt8.toInt32).toInt8.toInt32)) 13 (((x4 >>> (16 &&& 31)).toInt8.toInt32).toInt8.toInt32)) 14 (((x4 >>> (8 &&& 31)).toInt8.toInt32).toInt8.toInt32)) 15 (((x4 >>> (0 &&& 31)).toInt8.toInt32).toInt8.toInt32))) d_TrustDeskModel_feed_100 ((mj_up_ne _ _ (Nat.ne_of_beq_eq_false rfl)).trans (mj_up_self _ _ _)) (by unfold vp_in; decide) rfl ?_
  refine mv_aload_n d_TrustDeskModel_feed_101 rfl rfl ?_
  refine mv_dup d_TrustDeskModel_feed_102 rfl ?_
  refine mv_get d_TrustDeskModel_feed_103 f_TrustDeskModel_189_13 ((mj_up_ne _ _ (Nat.ne_of_beq_eq_false rfl)).trans (mj_up_self _ _ _)) rfl ?_
  refine mv_iconst (v := 1) d_TrustDeskModel_feed_106 (by decide) ?_
  refine mv_iaddv (v := 16) d_TrustDeskModel_feed_107 (by decide) ?_
  refine mv_put (fs' := [.int 0, .int 0, .int 0, .ref 100, .ref 101, .ref 102, .ref 103, .ref 104, .ref 105, .ref 106, .ref 107, .ref 108, .ref 109, .ref 110, .int 16, .int 0, .int 0, .int 0, .int 0, .int 0, .int 0, .int (-1), .int 0, .int 0, .int 0, .ref 111, .ref 112, .int 0, .ref 113, .ref 114, .ref 115, .int 0, .int 0, .ref 116, .ref 117, .ref 118, .ref 119, .ref 120, .ref 121, .ref 122, .ref 123, .ref 124, .ref 125, .ref 126, .ref 127, .ref 128, .ref 129, .ref 130, .ref 131, .int 0, .ref 132, .int 0, .ref 133, .int 0, .ref 134, .ref 135, .ref 136, .ref 137, .ref 138, .ref 139, .ref 140, .ref 141, .ref 142, .ref 143, .ref 144, .ref 145, .ref 146, .int 0, .long 0, .int 0, .int 0, .ref 147]) d_TrustDeskModel_feed_108 p_TrustDeskModel_189_13 ((mj_up_ne _ _ (Nat.ne_of_beq_eq_false rfl)).trans (mj_up_self _ _ _)) (Nat.le_of_ble_eq_true rfl) rfl rfl rfl ?_
  refine mv_iinc (v := 16) (lv' := [(6, .int 16), (7, .int x4), (0, .ref 99), (1, .int x1), (2, .int x2), (3, .int x3), (4, .int x4), (5, .int x5)]) d_TrustDeskModel_feed_111 rfl (by decide) (by decide) rfl ?_
  refine mv_goto (tgt := 23) d_TrustDeskModel_feed_114 (by decide) ?_
  refine mv_iload d_TrustDeskModel_feed_23 rfl ?_
  refine mv_bipush (v := 20) d_TrustDeskModel_feed_25 (by decide) ?_
  refine mv_icmp_ge_f (tgt := 117) d_TrustDeskModel_feed_27 (by decide) (by decide) ?_
  refine mv_iload d_TrustDeskModel_feed_30 rfl ?_
  refine mv_iconst (v := 4) d_TrustDeskModel_feed_32 (by decide) ?_
  refine mv_icmp_ge_t (tgt := 40) d_TrustDeskModel_feed_33 (by decide) (by decide) ?_
  refine mv_iload d_TrustDeskModel_feed_40 rfl ?_
  refine mv_bipush (v := 8) d_TrustDeskModel_feed_42 (by decide) ?_
  refine mv_icmp_ge_t (tgt := 51) d_TrustDeskModel_feed_44 (by decide) (by decide) ?_
  refine mv_iload d_TrustDeskModel_feed_51 rfl ?_
  refine mv_bipush (v := 12) d_TrustDeskModel_feed_53 (by decide) ?_
  refine mv_icmp_ge_t (tgt := 62) d_TrustDeskModel_feed_55 (by decide) (by decide) ?_
  refine mv_iload d_TrustDeskModel_feed_62 rfl ?_
  refine mv_bipush (v := 16) d_TrustDeskModel_feed_64 (by decide) ?_
  refine mv_icmp_ge_t (tgt := 74) d_TrustDeskModel_feed_66 (by decide) (by decide) ?_
  refine mv_iload d_TrustDeskModel_feed_74 rfl ?_
  refine mv_istore (lv' := [(7, .int x5), (6, .int 16), (0, .ref 99), (1, .int x1), (2, .int x2), (3, .int x3), (4, .int x4), (5, .int x5)]) d_TrustDeskModel_feed_76 (by decide) rfl ?_
  refine mv_aload_n d_TrustDeskModel_feed_78 rfl rfl ?_
  refine mv_get d_TrustDeskModel_feed_79 f_TrustDeskModel_44_13 (mj_up_self _ _ _) rfl ?_
  refine mv_aload_n d_TrustDeskModel_feed_82 rfl rfl ?_
  refine mv_get d_TrustDeskModel_feed_83 f_TrustDeskModel_189_13 (mj_up_self _ _ _) rfl ?_
  refine mv_iload d_TrustDeskModel_feed_86 rfl ?_
  refine mv_bipush (v := 24) d_TrustDeskModel_feed_88 (by decide) ?_
  refine mv_bipush (v := 8) d_TrustDeskModel_feed_90 (by decide) ?_
  refine mv_iload d_TrustDeskModel_feed_92 rfl ?_
  refine mv_iconst (v := 4) d_TrustDeskModel_feed_94 (by decide) ?_
  refine mv_iremv (v := 0) d_TrustDeskModel_feed_95 (by decide) (by decide) ?_
  refine mv_imulv (v := 0) d_TrustDeskModel_feed_96 (by decide) ?_
  refine mv_isubv (v := 24) d_TrustDeskModel_feed_97 (by decide) ?_
  refine mv_ishr d_TrustDeskModel_feed_98 ?_
  refine mv_i2b (v := (x5 >>> (24 &&& 31)).toInt8.toInt32) d_TrustDeskModel_feed_99 rfl ?_
  refine mv_bast (f' := (upd (upd (upd (upd (upd (upd (upd (upd (upd (upd (upd (upd (upd (upd (upd (upd (upd (fun _ => 0) 0 (((x1 >>> (24 &&& 31)).toInt8.toInt32).toInt8.toInt32)) 1 (((x1 >>> (16 &&& 31)).toInt8.toInt32).toInt8.toInt32)) 2 (((x1 >>> (8 &&& 31)).toInt8.toInt32).toInt8.toInt32)) 3 (((x1 >>> (0 &&& 31)).toInt8.toInt32).toInt8.toInt32)) 4 (((x2 >>> (24 &&& 31)).toInt8.toInt32).toInt8.toInt32)) 5 (((x2 >>> (16 &&& 31)).toInt8.toInt32).toInt8.toInt32)) 6 (((x2 >>> (8 &&& 31)).toInt8.toInt32).toInt8.toInt32)) 7 (((x2 >>> (0 &&& 31)).toInt8.toInt32).toInt8.toInt32)) 8 (((x3 >>> (24 &&& 31)).toInt8.toInt32).toInt8.toInt32)) 9 (((x3 >>> (16 &&& 31)).toInt8.toInt32).toInt8.toInt32)) 10 (((x3 >>> (8 &&& 31)).toInt8.toInt32).toInt8.toInt32)) 11 (((x3 >>> (0 &&& 31)).toInt8.toInt32).toInt8.toInt32)) 12 (((x4 >>> (24 &&& 31)).toInt8.toInt32).toInt8.toInt32)) 13 (((x4 >>> (16 &&& 31)).toInt8.toInt32).toInt8.toInt32)) 14 (((x4 >>> (8 &&& 31)).toInt8.toInt32).toInt8.toInt32)) 15 (((x4 >>> (0 &&& 31)).toInt8.toInt32).toInt8.toInt32)) 16 (((x5 >>> (24 &&& 31)).toInt8.toInt32).toInt8.toInt32))) d_TrustDeskModel_feed_100 ((mj_up_ne _ _ (Nat.ne_of_beq_eq_false rfl)).trans (mj_up_self _ _ _)) (by unfold vp_in; decide) rfl ?_
  refine mv_aload_n d_TrustDeskModel_feed_101 rfl rfl ?_
  refine mv_dup d_TrustDeskModel_feed_102 rfl ?_
  refine mv_get d_TrustDeskModel_feed_103 f_TrustDeskModel_189_13 ((mj_up_ne _ _ (Nat.ne_of_beq_eq_false rfl)).trans (mj_up_self _ _ _)) rfl ?_
  refine mv_iconst (v := 1) d_TrustDeskModel_feed_106 (by decide) ?_
  refine mv_iaddv (v := 17) d_TrustDeskModel_feed_107 (by decide) ?_
  refine mv_put (fs' := [.int 0, .int 0, .int 0, .ref 100, .ref 101, .ref 102, .ref 103, .ref 104, .ref 105, .ref 106, .ref 107, .ref 108, .ref 109, .ref 110, .int 17, .int 0, .int 0, .int 0, .int 0, .int 0, .int 0, .int (-1), .int 0, .int 0, .int 0, .ref 111, .ref 112, .int 0, .ref 113, .ref 114, .ref 115, .int 0, .int 0, .ref 116, .ref 117, .ref 118, .ref 119, .ref 120, .ref 121, .ref 122, .ref 123, .ref 124, .ref 125, .ref 126, .ref 127, .ref 128, .ref 129, .ref 130, .ref 131, .int 0, .ref 132, .int 0, .ref 133, .int 0, .ref 134, .ref 135, .ref 136, .ref 137, .ref 138, .ref 139, .ref 140, .ref 141, .ref 142, .ref 143, .ref 144, .ref 145, .ref 146, .int 0, .long 0, .int 0, .int 0, .ref 147]) d_TrustDeskModel_feed_108 p_TrustDeskModel_189_13 ((mj_up_ne _ _ (Nat.ne_of_beq_eq_false rfl)).trans (mj_up_self _ _ _)) (Nat.le_of_ble_eq_true rfl) rfl rfl rfl ?_
  refine mv_iinc (v := 17) (lv' := [(6, .int 17), (7, .int x5), (0, .ref 99), (1, .int x1), (2, .int x2), (3, .int x3), (4, .int x4), (5, .int x5)]) d_TrustDeskModel_feed_111 rfl (by decide) (by decide) rfl ?_
  refine mv_goto (tgt := 23) d_TrustDeskModel_feed_114 (by decide) ?_
  refine mv_iload d_TrustDeskModel_feed_23 rfl ?_
  refine mv_bipush (v := 20) d_TrustDeskModel_feed_25 (by decide) ?_
  refine mv_icmp_ge_f (tgt := 117) d_TrustDeskModel_feed_27 (by decide) (by decide) ?_
  refine mv_iload d_TrustDeskModel_feed_30 rfl ?_
  refine mv_iconst (v := 4) d_TrustDeskModel_feed_32 (by decide) ?_
  refine mv_icmp_ge_t (tgt := 40) d_TrustDeskModel_feed_33 (by decide) (by decide) ?_
  refine mv_iload d_TrustDeskModel_feed_40 rfl ?_
  refine mv_bipush (v := 8) d_TrustDeskModel_feed_42 (by decide) ?_
  refine mv_icmp_ge_t (tgt := 51) d_TrustDeskModel_feed_44 (by decide) (by decide) ?_
  refine mv_iload d_TrustDeskModel_feed_51 rfl ?_
  refine mv_bipush (v := 12) d_TrustDeskModel_feed_53 (by decide) ?_
  refine mv_icmp_ge_t (tgt := 62) d_TrustDeskModel_feed_55 (by decide) (by decide) ?_
  refine mv_iload d_TrustDeskModel_feed_62 rfl ?_
  refine mv_bipush (v := 16) d_TrustDeskModel_feed_64 (by decide) ?_
  refine mv_icmp_ge_t (tgt := 74) d_TrustDeskModel_feed_66 (by decide) (by decide) ?_
  refine mv_iload d_TrustDeskModel_feed_74 rfl ?_
  refine mv_istore (lv' := [(7, .int x5), (6, .int 17), (0, .ref 99), (1, .int x1), (2, .int x2), (3, .int x3), (4, .int x4), (5, .int x5)]) d_TrustDeskModel_feed_76 (by decide) rfl ?_
  refine mv_aload_n d_TrustDeskModel_feed_78 rfl rfl ?_
  refine mv_get d_TrustDeskModel_feed_79 f_TrustDeskModel_44_13 (mj_up_self _ _ _) rfl ?_
  refine mv_aload_n d_TrustDeskModel_feed_82 rfl rfl ?_
  refine mv_get d_TrustDeskModel_feed_83 f_TrustDeskModel_189_13 (mj_up_self _ _ _) rfl ?_
  refine mv_iload d_TrustDeskModel_feed_86 rfl ?_
  refine mv_bipush (v := 24) d_TrustDeskModel_feed_88 (by decide) ?_
  refine mv_bipush (v := 8) d_TrustDeskModel_feed_90 (by decide) ?_
  refine mv_iload d_TrustDeskModel_feed_92 rfl ?_
  refine mv_iconst (v := 4) d_TrustDeskModel_feed_94 (by decide) ?_
  refine mv_iremv (v := 1) d_TrustDeskModel_feed_95 (by decide) (by decide) ?_
  refine mv_imulv (v := 8) d_TrustDeskModel_feed_96 (by decide) ?_
  refine mv_isubv (v := 16) d_TrustDeskModel_feed_97 (by decide) ?_
  refine mv_ishr d_TrustDeskModel_feed_98 ?_
  refine mv_i2b (v := (x5 >>> (16 &&& 31)).toInt8.toInt32) d_TrustDeskModel_feed_99 rfl ?_
  refine mv_bast (f' := (upd (upd (upd (upd (upd (upd (upd (upd (upd (upd (upd (upd (upd (upd (upd (upd (upd (upd (fun _ => 0) 0 (((x1 >>> (24 &&& 31)).toInt8.toInt32).toInt8.toInt32)) 1 (((x1 >>> (16 &&& 31)).toInt8.toInt32).toInt8.toInt32)) 2 (((x1 >>> (8 &&& 31)).toInt8.toInt32).toInt8.toInt32)) 3 (((x1 >>> (0 &&& 31)).toInt8.toInt32).toInt8.toInt32)) 4 (((x2 >>> (24 &&& 31)).toInt8.toInt32).toInt8.toInt32)) 5 (((x2 >>> (16 &&& 31)).toInt8.toInt32).toInt8.toInt32)) 6 (((x2 >>> (8 &&& 31)).toInt8.toInt32).toInt8.toInt32)) 7 (((x2 >>> (0 &&& 31)).toInt8.toInt32).toInt8.toInt32)) 8 (((x3 >>> (24 &&& 31)).toInt8.toInt32).toInt8.toInt32)) 9 (((x3 >>> (16 &&& 31)).toInt8.toInt32).toInt8.toInt32)) 10 (((x3 >>> (8 &&& 31)).toInt8.toInt32).toInt8.toInt32)) 11 (((x3 >>> (0 &&& 31)).toInt8.toInt32).toInt8.toInt32)) 12 (((x4 >>> (24 &&& 31)).toInt8.toInt32).toInt8.toInt32)) 13 (((x4 >>> (16 &&& 31)).toInt8.toInt32).toInt8.toInt32)) 14 (((x4 >>> (8 &&& 31)).toInt8.toInt32).toInt8.toInt32)) 15 (((x4 >>> (0 &&& 31)).toInt8.toInt32).toInt8.toInt32)) 16 (((x5 >>> (24 &&& 31)).toInt8.toInt32).toInt8.toInt32)) 17 (((x5 >>> (16 &&& 31)).toInt8.toInt32).toInt8.toInt32))) d_TrustDeskModel_feed_100 ((mj_up_ne _ _ (Nat.ne_of_beq_eq_false rfl)).trans (mj_up_self _ _ _)) (by unfold vp_in; decide) rfl ?_
  refine mv_aload_n d_TrustDeskModel_feed_101 rfl rfl ?_
  refine mv_dup d_TrustDeskModel_feed_102 rfl ?_
  refine mv_get d_TrustDeskModel_feed_103 f_TrustDeskModel_189_13 ((mj_up_ne _ _ (Nat.ne_of_beq_eq_false rfl)).trans (mj_up_self _ _ _)) rfl ?_
  refine mv_iconst (v := 1) d_TrustDeskModel_feed_106 (by decide) ?_
  refine mv_iaddv (v := 18) d_TrustDeskModel_feed_107 (by decide) ?_
  refine mv_put (fs' := [.int 0, .int 0, .int 0, .ref 100, .ref 101, .ref 102, .ref 103, .ref 104, .ref 105, .ref 106, .ref 107, .ref 108, .ref 109, .ref 110, .int 18, .int 0, .int 0, .int 0, .int 0, .int 0, .int 0, .int (-1), .int 0, .int 0, .int 0, .ref 111, .ref 112, .int 0, .ref 113, .ref 114, .ref 115, .int 0, .int 0, .ref 116, .ref 117, .ref 118, .ref 119, .ref 120, .ref 121, .ref 122, .ref 123, .ref 124, .ref 125, .ref 126, .ref 127, .ref 128, .ref 129, .ref 130, .ref 131, .int 0, .ref 132, .int 0, .ref 133, .int 0, .ref 134, .ref 135, .ref 136, .ref 137, .ref 138, .ref 139, .ref 140, .ref 141, .ref 142, .ref 143, .ref 144, .ref 145, .ref 146, .int 0, .long 0, .int 0, .int 0, .ref 147]) d_TrustDeskModel_feed_108 p_TrustDeskModel_189_13 ((mj_up_ne _ _ (Nat.ne_of_beq_eq_false rfl)).trans (mj_up_self _ _ _)) (Nat.le_of_ble_eq_true rfl) rfl rfl rfl ?_
  refine mv_iinc (v := 18) (lv' := [(6, .int 18), (7, .int x5), (0, .ref 99), (1, .int x1), (2, .int x2), (3, .int x3), (4, .int x4), (5, .int x5)]) d_TrustDeskModel_feed_111 rfl (by decide) (by decide) rfl ?_
  refine mv_goto (tgt := 23) d_TrustDeskModel_feed_114 (by decide) ?_
  refine mv_iload d_TrustDeskModel_feed_23 rfl ?_
  refine mv_bipush (v := 20) d_TrustDeskModel_feed_25 (by decide) ?_
  refine mv_icmp_ge_f (tgt := 117) d_TrustDeskModel_feed_27 (by decide) (by decide) ?_
  refine mv_iload d_TrustDeskModel_feed_30 rfl ?_
  refine mv_iconst (v := 4) d_TrustDeskModel_feed_32 (by decide) ?_
  refine mv_icmp_ge_t (tgt := 40) d_TrustDeskModel_feed_33 (by decide) (by decide) ?_
  refine mv_iload d_TrustDeskModel_feed_40 rfl ?_
  refine mv_bipush (v := 8) d_TrustDeskModel_feed_42 (by decide) ?_
  refine mv_icmp_ge_t (tgt := 51) d_TrustDeskModel_feed_44 (by decide) (by decide) ?_
  refine mv_iload d_TrustDeskModel_feed_51 rfl ?_
  refine mv_bipush (v := 12) d_TrustDeskModel_feed_53 (by decide) ?_
  refine mv_icmp_ge_t (tgt := 62) d_TrustDeskModel_feed_55 (by decide) (by decide) ?_
  refine mv_iload d_TrustDeskModel_feed_62 rfl ?_
  refine mv_bipush (v := 16) d_TrustDeskModel_feed_64 (by decide) ?_
  refine mv_icmp_ge_t (tgt := 74) d_TrustDeskModel_feed_66 (by decide) (by decide) ?_
  refine mv_iload d_TrustDeskModel_feed_74 rfl ?_
  refine mv_istore (lv' := [(7, .int x5), (6, .int 18), (0, .ref 99), (1, .int x1), (2, .int x2), (3, .int x3), (4, .int x4), (5, .int x5)]) d_TrustDeskModel_feed_76 (by decide) rfl ?_
  refine mv_aload_n d_TrustDeskModel_feed_78 rfl rfl ?_
  refine mv_get d_TrustDeskModel_feed_79 f_TrustDeskModel_44_13 (mj_up_self _ _ _) rfl ?_
  refine mv_aload_n d_TrustDeskModel_feed_82 rfl rfl ?_
  refine mv_get d_TrustDeskModel_feed_83 f_TrustDeskModel_189_13 (mj_up_self _ _ _) rfl ?_
  refine mv_iload d_TrustDeskModel_feed_86 rfl ?_
  refine mv_bipush (v := 24) d_TrustDeskModel_feed_88 (by decide) ?_
  refine mv_bipush (v := 8) d_TrustDeskModel_feed_90 (by decide) ?_
  refine mv_iload d_TrustDeskModel_feed_92 rfl ?_
  refine mv_iconst (v := 4) d_TrustDeskModel_feed_94 (by decide) ?_
  refine mv_iremv (v := 2) d_TrustDeskModel_feed_95 (by decide) (by decide) ?_
  refine mv_imulv (v := 16) d_TrustDeskModel_feed_96 (by decide) ?_
  refine mv_isubv (v := 8) d_TrustDeskModel_feed_97 (by decide) ?_
  refine mv_ishr d_TrustDeskModel_feed_98 ?_
  refine mv_i2b (v := (x5 >>> (8 &&& 31)).toInt8.toInt32) d_TrustDeskModel_feed_99 rfl ?_
  refine mv_bast (f' := (upd (upd (upd (upd (upd (upd (upd (upd (upd (upd (upd (upd (upd (upd (upd (upd (upd (upd (upd (fun _ => 0) 0 (((x1 >>> (24 &&& 31)).toInt8.toInt32).toInt8.toInt32)) 1 (((x1 >>> (16 &&& 31)).toInt8.toInt32).toInt8.toInt32)) 2 (((x1 >>> (8 &&& 31)).toInt8.toInt32).toInt8.toInt32)) 3 (((x1 >>> (0 &&& 31)).toInt8.toInt32).toInt8.toInt32)) 4 (((x2 >>> (24 &&& 31)).toInt8.toInt32).toInt8.toInt32)) 5 (((x2 >>> (16 &&& 31)).toInt8.toInt32).toInt8.toInt32)) 6 (((x2 >>> (8 &&& 31)).toInt8.toInt32).toInt8.toInt32)) 7 (((x2 >>> (0 &&& 31)).toInt8.toInt32).toInt8.toInt32)) 8 (((x3 >>> (24 &&& 31)).toInt8.toInt32).toInt8.toInt32)) 9 (((x3 >>> (16 &&& 31)).toInt8.toInt32).toInt8.toInt32)) 10 (((x3 >>> (8 &&& 31)).toInt8.toInt32).toInt8.toInt32)) 11 (((x3 >>> (0 &&& 31)).toInt8.toInt32).toInt8.toInt32)) 12 (((x4 >>> (24 &&& 31)).toInt8.toInt32).toInt8.toInt32)) 13 (((x4 >>> (16 &&& 31)).toInt8.toInt32).toInt8.toInt32)) 14 (((x4 >>> (8 &&& 31)).toInt8.toInt32).toInt8.toInt32)) 15 (((x4 >>> (0 &&& 31)).toInt8.toInt32).toInt8.toInt32)) 16 (((x5 >>> (24 &&& 31)).toInt8.toInt32).toInt8.toInt32)) 17 (((x5 >>> (16 &&& 31)).toInt8.toInt32).toInt8.toInt32)) 18 (((x5 >>> (8 &&& 31)).toInt8.toInt32).toInt8.toInt32))) d_TrustDeskModel_feed_100 ((mj_up_ne _ _ (Nat.ne_of_beq_eq_false rfl)).trans (mj_up_self _ _ _)) (by unfold vp_in; decide) rfl ?_
  refine mv_aload_n d_TrustDeskModel_feed_101 rfl rfl ?_
  refine mv_dup d_TrustDeskModel_feed_102 rfl ?_
  refine mv_get d_TrustDeskModel_feed_103 f_TrustDeskModel_189_13 ((mj_up_ne _ _ (Nat.ne_of_beq_eq_false rfl)).trans (mj_up_self _ _ _)) rfl ?_
  refine mv_iconst (v := 1) d_TrustDeskModel_feed_106 (by decide) ?_
  refine mv_iaddv (v := 19) d_TrustDeskModel_feed_107 (by decide) ?_
  refine mv_put (fs' := [.int 0, .int 0, .int 0, .ref 100, .ref 101, .ref 102, .ref 103, .ref 104, .ref 105, .ref 106, .ref 107, .ref 108, .ref 109, .ref 110, .int 19, .int 0, .int 0, .int 0, .int 0, .int 0, .int 0, .int (-1), .int 0, .int 0, .int 0, .ref 111, .ref 112, .int 0, .ref 113, .ref 114, .ref 115, .int 0, .int 0, .ref 116, .ref 117, .ref 118, .ref 119, .ref 120, .ref 121, .ref 122, .ref 123, .ref 124, .ref 125, .ref 126, .ref 127, .ref 128, .ref 129, .ref 130, .ref 131, .int 0, .ref 132, .int 0, .ref 133, .int 0, .ref 134, .ref 135, .ref 136, .ref 137, .ref 138, .ref 139, .ref 140, .ref 141, .ref 142, .ref 143, .ref 144, .ref 145, .ref 146, .int 0, .long 0, .int 0, .int 0, .ref 147]) d_TrustDeskModel_feed_108 p_TrustDeskModel_189_13 ((mj_up_ne _ _ (Nat.ne_of_beq_eq_false rfl)).trans (mj_up_self _ _ _)) (Nat.le_of_ble_eq_true rfl) rfl rfl rfl ?_
  refine mv_iinc (v := 19) (lv' := [(6, .int 19), (7, .int x5), (0, .ref 99), (1, .int x1), (2, .int x2), (3, .int x3), (4, .int x4), (5, .int x5)]) d_TrustDeskModel_feed_111 rfl (by decide) (by decide) rfl ?_
  refine mv_goto (tgt := 23) d_TrustDeskModel_feed_114 (by decide) ?_
  refine mv_iload d_TrustDeskModel_feed_23 rfl ?_
  refine mv_bipush (v := 20) d_TrustDeskModel_feed_25 (by decide) ?_
  refine mv_icmp_ge_f (tgt := 117) d_TrustDeskModel_feed_27 (by decide) (by decide) ?_
  refine mv_iload d_TrustDeskModel_feed_30 rfl ?_
  refine mv_iconst (v := 4) d_TrustDeskModel_feed_32 (by decide) ?_
  refine mv_icmp_ge_t (tgt := 40) d_TrustDeskModel_feed_33 (by decide) (by decide) ?_
  refine mv_iload d_TrustDeskModel_feed_40 rfl ?_
  refine mv_bipush (v := 8) d_TrustDeskModel_feed_42 (by decide) ?_
  refine mv_icmp_ge_t (tgt := 51) d_TrustDeskModel_feed_44 (by decide) (by decide) ?_
  refine mv_iload d_TrustDeskModel_feed_51 rfl ?_
  refine mv_bipush (v := 12) d_TrustDeskModel_feed_53 (by decide) ?_
  refine mv_icmp_ge_t (tgt := 62) d_TrustDeskModel_feed_55 (by decide) (by decide) ?_
  refine mv_iload d_TrustDeskModel_feed_62 rfl ?_
  refine mv_bipush (v := 16) d_TrustDeskModel_feed_64 (by decide) ?_
  refine mv_icmp_ge_t (tgt := 74) d_TrustDeskModel_feed_66 (by decide) (by decide) ?_
  refine mv_iload d_TrustDeskModel_feed_74 rfl ?_
  refine mv_istore (lv' := [(7, .int x5), (6, .int 19), (0, .ref 99), (1, .int x1), (2, .int x2), (3, .int x3), (4, .int x4), (5, .int x5)]) d_TrustDeskModel_feed_76 (by decide) rfl ?_
  refine mv_aload_n d_TrustDeskModel_feed_78 rfl rfl ?_
  refine mv_get d_TrustDeskModel_feed_79 f_TrustDeskModel_44_13 (mj_up_self _ _ _) rfl ?_
  refine mv_aload_n d_TrustDeskModel_feed_82 rfl rfl ?_
  refine mv_get d_TrustDeskModel_feed_83 f_TrustDeskModel_189_13 (mj_up_self _ _ _) rfl ?_
  refine mv_iload d_TrustDeskModel_feed_86 rfl ?_
  refine mv_bipush (v := 24) d_TrustDeskModel_feed_88 (by decide) ?_
  refine mv_bipush (v := 8) d_TrustDeskModel_feed_90 (by decide) ?_
  refine mv_iload d_TrustDeskModel_feed_92 rfl ?_
  refine mv_iconst (v := 4) d_TrustDeskModel_feed_94 (by decide) ?_
  refine mv_iremv (v := 3) d_TrustDeskModel_feed_95 (by decide) (by decide) ?_
  refine mv_imulv (v := 24) d_TrustDeskModel_feed_96 (by decide) ?_
  refine mv_isubv (v := 0) d_TrustDeskModel_feed_97 (by decide) ?_
  refine mv_ishr d_TrustDeskModel_feed_98 ?_
  refine mv_i2b (v := (x5 >>> (0 &&& 31)).toInt8.toInt32) d_TrustDeskModel_feed_99 rfl ?_
  refine mv_bast (f' := (upd (upd (upd (upd (upd (upd (upd (upd (upd (upd (upd (upd (upd (upd (upd (upd (upd (upd (upd (upd (fun _ => 0) 0 (((x1 >>> (24 &&& 31)).toInt8.toInt32).toInt8.toInt32)) 1 (((x1 >>> (16 &&& 31)).toInt8.toInt32).toInt8.toInt32)) 2 (((x1 >>> (8 &&& 31)).toInt8.toInt32).toInt8.toInt32)) 3 (((x1 >>> (0 &&& 31)).toInt8.toInt32).toInt8.toInt32)) 4 (((x2 >>> (24 &&& 31)).toInt8.toInt32).toInt8.toInt32)) 5 (((x2 >>> (16 &&& 31)).toInt8.toInt32).toInt8.toInt32)) 6 (((x2 >>> (8 &&& 31)).toInt8.toInt32).toInt8.toInt32)) 7 (((x2 >>> (0 &&& 31)).toInt8.toInt32).toInt8.toInt32)) 8 (((x3 >>> (24 &&& 31)).toInt8.toInt32).toInt8.toInt32)) 9 (((x3 >>> (16 &&& 31)).toInt8.toInt32).toInt8.toInt32)) 10 (((x3 >>> (8 &&& 31)).toInt8.toInt32).toInt8.toInt32)) 11 (((x3 >>> (0 &&& 31)).toInt8.toInt32).toInt8.toInt32)) 12 (((x4 >>> (24 &&& 31)).toInt8.toInt32).toInt8.toInt32)) 13 (((x4 >>> (16 &&& 31)).toInt8.toInt32).toInt8.toInt32)) 14 (((x4 >>> (8 &&& 31)).toInt8.toInt32).toInt8.toInt32)) 15 (((x4 >>> (0 &&& 31)).toInt8.toInt32).toInt8.toInt32)) 16 (((x5 >>> (24 &&& 31)).toInt8.toInt32).toInt8.toInt32)) 17 (((x5 >>> (16 &&& 31)).toInt8.toInt32).toInt8.toInt32)) 18 (((x5 >>> (8 &&& 31)).toInt8.toInt32).toInt8.toInt32)) 19 (((x5 >>> (0 &&& 31)).toInt8.toInt32).toInt8.toInt32))) d_TrustDeskModel_feed_100 ((mj_up_ne _ _ (Nat.ne_of_beq_eq_false rfl)).trans (mj_up_self _ _ _)) (by unfold vp_in; decide) rfl ?_
  refine mv_aload_n d_TrustDeskModel_feed_101 rfl rfl ?_
  refine mv_dup d_TrustDeskModel_feed_102 rfl ?_
  refine mv_get d_TrustDeskModel_feed_103 f_TrustDeskModel_189_13 ((mj_up_ne _ _ (Nat.ne_of_beq_eq_false rfl)).trans (mj_up_self _ _ _)) rfl ?_
  refine mv_iconst (v := 1) d_TrustDeskModel_feed_106 (by decide) ?_
  refine mv_iaddv (v := 20) d_TrustDeskModel_feed_107 (by decide) ?_
  refine mv_put (fs' := [.int 0, .int 0, .int 0, .ref 100, .ref 101, .ref 102, .ref 103, .ref 104, .ref 105, .ref 106, .ref 107, .ref 108, .ref 109, .ref 110, .int 20, .int 0, .int 0, .int 0, .int 0, .int 0, .int 0, .int (-1), .int 0, .int 0, .int 0, .ref 111, .ref 112, .int 0, .ref 113, .ref 114, .ref 115, .int 0, .int 0, .ref 116, .ref 117, .ref 118, .ref 119, .ref 120, .ref 121, .ref 122, .ref 123, .ref 124, .ref 125, .ref 126, .ref 127, .ref 128, .ref 129, .ref 130, .ref 131, .int 0, .ref 132, .int 0, .ref 133, .int 0, .ref 134, .ref 135, .ref 136, .ref 137, .ref 138, .ref 139, .ref 140, .ref 141, .ref 142, .ref 143, .ref 144, .ref 145, .ref 146, .int 0, .long 0, .int 0, .int 0, .ref 147]) d_TrustDeskModel_feed_108 p_TrustDeskModel_189_13 ((mj_up_ne _ _ (Nat.ne_of_beq_eq_false rfl)).trans (mj_up_self _ _ _)) (Nat.le_of_ble_eq_true rfl) rfl rfl rfl ?_
  refine mv_iinc (v := 20) (lv' := [(6, .int 20), (7, .int x5), (0, .ref 99), (1, .int x1), (2, .int x2), (3, .int x3), (4, .int x4), (5, .int x5)]) d_TrustDeskModel_feed_111 rfl (by decide) (by decide) rfl ?_
  refine mv_goto (tgt := 23) d_TrustDeskModel_feed_114 (by decide) ?_
  refine mv_iload d_TrustDeskModel_feed_23 rfl ?_
  refine mv_bipush (v := 20) d_TrustDeskModel_feed_25 (by decide) ?_
  refine mv_icmp_ge_t (tgt := 117) d_TrustDeskModel_feed_27 (by decide) (by decide) ?_
  refine mv_aload_n d_TrustDeskModel_feed_117 rfl rfl ?_
  refine mv_get d_TrustDeskModel_feed_118 f_TrustDeskModel_189_13 (mj_up_self _ _ _) rfl ?_
  exact mv_iret d_TrustDeskModel_feed_121 rfl (by first | rfl | decide) ⟨rfl, rfl, rfl⟩
abbrev kY_TrustDeskModel_end : mj_Y := (⟨"TrustDeskModel", "end", "(I)I"⟩, prog_14_method_12_code, 2, (Option.some Jvm.ClassFile.FieldType.int))
theorem d_TrustDeskModel_end_0 : decode kY_TrustDeskModel_end.2.1 0 = .ok (.aload_n 0, 1) := by decide +kernel
theorem d_TrustDeskModel_end_1 : decode kY_TrustDeskModel_end.2.1 1 = .ok (.iconst 0, 1) := by decide +kernel
theorem d_TrustDeskModel_end_2 : decode kY_TrustDeskModel_end.2.1 2 = .ok (.putfield 1, 3) := by decide +kernel
theorem d_TrustDeskModel_end_5 : decode kY_TrustDeskModel_end.2.1 5 = .ok (.iload_n 1, 1) := by decide +kernel
theorem d_TrustDeskModel_end_6 : decode kY_TrustDeskModel_end.2.1 6 = .ok (.ifCond .lt 11, 3) := by decide +kernel
theorem d_TrustDeskModel_end_17 : decode kY_TrustDeskModel_end.2.1 17 = .ok (.iconst (-1), 1) := by decide +kernel
theorem d_TrustDeskModel_end_18 : decode kY_TrustDeskModel_end.2.1 18 = .ok (.ireturn, 1) := by decide +kernel
theorem d_TrustDeskModel_end_9 : decode kY_TrustDeskModel_end.2.1 9 = .ok (.iload_n 1, 1) := by decide +kernel
theorem d_TrustDeskModel_end_10 : decode kY_TrustDeskModel_end.2.1 10 = .ok (.aload_n 0, 1) := by decide +kernel
theorem d_TrustDeskModel_end_11 : decode kY_TrustDeskModel_end.2.1 11 = .ok (.getfield 189, 3) := by decide +kernel
theorem d_TrustDeskModel_end_14 : decode kY_TrustDeskModel_end.2.1 14 = .ok (.if_icmp .le 5, 3) := by decide +kernel
theorem d_TrustDeskModel_end_19 : decode kY_TrustDeskModel_end.2.1 19 = .ok (.aload_n 0, 1) := by decide +kernel
theorem d_TrustDeskModel_end_20 : decode kY_TrustDeskModel_end.2.1 20 = .ok (.iload_n 1, 1) := by decide +kernel
theorem d_TrustDeskModel_end_21 : decode kY_TrustDeskModel_end.2.1 21 = .ok (.putfield 189, 3) := by decide +kernel
theorem d_TrustDeskModel_end_24 : decode kY_TrustDeskModel_end.2.1 24 = .ok (.iload_n 1, 1) := by decide +kernel
theorem d_TrustDeskModel_end_25 : decode kY_TrustDeskModel_end.2.1 25 = .ok (.ireturn, 1) := by decide +kernel
theorem c_TrustDeskModel_end_0 {g : mj_G} {l : Launch} {d nx : Nat} {M : mj_M} {x1 : Int32} (h_99 : M 99 = some (.inr (13, [.int 0, .int 0, .int 0, .ref 100, .ref 101, .ref 102, .ref 103, .ref 104, .ref 105, .ref 106, .ref 107, .ref 108, .ref 109, .ref 110, .int 0, .int 0, .int 0, .int 0, .int 0, .int 0, .int 0, .int (-1), .int 0, .int 0, .int 0, .ref 111, .ref 112, .int 0, .ref 113, .ref 114, .ref 115, .int 0, .int 0, .ref 116, .ref 117, .ref 118, .ref 119, .ref 120, .ref 121, .ref 122, .ref 123, .ref 124, .ref 125, .ref 126, .ref 127, .ref 128, .ref 129, .ref 130, .ref 131, .int 0, .ref 132, .int 0, .ref 133, .int 0, .ref 134, .ref 135, .ref 136, .ref 137, .ref 138, .ref 139, .ref 140, .ref 141, .ref 142, .ref 143, .ref 144, .ref 145, .ref 146, .int 0, .long 0, .int 0, .int 0, .ref 147]))) : mj_Met g l kY_TrustDeskModel_end d [.ref 99, .int x1] M nx 0 0 (mj_KP (some (.int (e_end x1))) M 0 0) := by
  refine mj_enter (by decide) (Nat.le_of_ble_eq_true rfl) ?_
  refine mv_aload_n d_TrustDeskModel_end_0 rfl rfl ?_
  refine mv_iconst (v := 0) d_TrustDeskModel_end_1 (by decide) ?_
  refine mv_put (fs' := [.int 0, .int 0, .int 0, .ref 100, .ref 101, .ref 102, .ref 103, .ref 104, .ref 105, .ref 106, .ref 107, .ref 108, .ref 109, .ref 110, .int 0, .int 0, .int 0, .int 0, .int 0, .int 0, .int 0, .int (-1), .int 0, .int 0, .int 0, .ref 111, .ref 112, .int 0, .ref 113, .ref 114, .ref 115, .int 0, .int 0, .ref 116, .ref 117, .ref 118, .ref 119, .ref 120, .ref 121, .ref 122, .ref 123, .ref 124, .ref 125, .ref 126, .ref 127, .ref 128, .ref 129, .ref 130, .ref 131, .int 0, .ref 132, .int 0, .ref 133, .int 0, .ref 134, .ref 135, .ref 136, .ref 137, .ref 138, .ref 139, .ref 140, .ref 141, .ref 142, .ref 143, .ref 144, .ref 145, .ref 146, .int 0, .long 0, .int 0, .int 0, .ref 147]) d_TrustDeskModel_end_2 p_TrustDeskModel_1_13 h_99 (Nat.le_of_ble_eq_true rfl) rfl rfl rfl ?_
  refine mv_iload_n d_TrustDeskModel_end_5 rfl rfl ?_
  refine mv_if_ltZ (tgt := 17) (a := x1.toInt) d_TrustDeskModel_end_6 (by decide) rfl (fun b1 => ?_) (fun b1 => ?_)
  · refine mv_iconst (v := (-1)) d_TrustDeskModel_end_17 (by decide) ?_
    exact mv_iret d_TrustDeskModel_end_18 rfl (by first | rfl | decide) ⟨(by unfold e_end; first | rw [if_pos (by omega)] | rw [if_neg (by omega)]), fun a ha1 ha2 => (mj_up_ne _ _ (show a ≠ 99 by omega)).trans (rfl)⟩
  · refine mv_iload_n d_TrustDeskModel_end_9 rfl rfl ?_
    refine mv_aload_n d_TrustDeskModel_end_10 rfl rfl ?_
    refine mv_get d_TrustDeskModel_end_11 f_TrustDeskModel_189_13 (mj_up_self _ _ _) rfl ?_
    refine mv_icmp_leZ (tgt := 19) (a := x1.toInt) (b := 0) d_TrustDeskModel_end_14 (by decide) rfl (by decide) (fun b2 => ?_) (fun b2 => ?_)
    · refine mv_aload_n d_TrustDeskModel_end_19 rfl rfl ?_
      refine mv_iload_n d_TrustDeskModel_end_20 rfl rfl ?_
      refine mv_put (fs' := [.int 0, .int 0, .int 0, .ref 100, .ref 101, .ref 102, .ref 103, .ref 104, .ref 105, .ref 106, .ref 107, .ref 108, .ref 109, .ref 110, .int x1, .int 0, .int 0, .int 0, .int 0, .int 0, .int 0, .int (-1), .int 0, .int 0, .int 0, .ref 111, .ref 112, .int 0, .ref 113, .ref 114, .ref 115, .int 0, .int 0, .ref 116, .ref 117, .ref 118, .ref 119, .ref 120, .ref 121, .ref 122, .ref 123, .ref 124, .ref 125, .ref 126, .ref 127, .ref 128, .ref 129, .ref 130, .ref 131, .int 0, .ref 132, .int 0, .ref 133, .int 0, .ref 134, .ref 135, .ref 136, .ref 137, .ref 138, .ref 139, .ref 140, .ref 141, .ref 142, .ref 143, .ref 144, .ref 145, .ref 146, .int 0, .long 0, .int 0, .int 0, .ref 147]) d_TrustDeskModel_end_21 p_TrustDeskModel_189_13 (mj_up_self _ _ _) (Nat.le_of_ble_eq_true rfl) rfl rfl rfl ?_
      refine mv_iload_n d_TrustDeskModel_end_24 rfl rfl ?_
      exact mv_iret d_TrustDeskModel_end_25 rfl (by first | rfl | decide) ⟨(by unfold e_end; first | rw [if_pos (by omega)] | rw [if_neg (by omega)]), fun a ha1 ha2 => (mj_up_ne _ _ (show a ≠ 99 by omega)).trans ((mj_up_ne _ _ (show a ≠ 99 by omega)).trans (rfl))⟩
    · refine mv_iconst (v := (-1)) d_TrustDeskModel_end_17 (by decide) ?_
      exact mv_iret d_TrustDeskModel_end_18 rfl (by first | rfl | decide) ⟨(by unfold e_end; first | rw [if_pos (by omega)] | rw [if_neg (by omega)]), fun a ha1 ha2 => (mj_up_ne _ _ (show a ≠ 99 by omega)).trans (rfl)⟩
abbrev kY_TrustDeskModel_act : mj_Y := (⟨"TrustDeskModel", "act", "(I)I"⟩, prog_14_method_44_code, 3, (Option.some Jvm.ClassFile.FieldType.int))
theorem d_TrustDeskModel_act_0 : decode kY_TrustDeskModel_act.2.1 0 = .ok (.aload_n 0, 1) := by decide +kernel
theorem d_TrustDeskModel_act_1 : decode kY_TrustDeskModel_act.2.1 1 = .ok (.iconst 0, 1) := by decide +kernel
theorem d_TrustDeskModel_act_2 : decode kY_TrustDeskModel_act.2.1 2 = .ok (.putfield 1, 3) := by decide +kernel
theorem d_TrustDeskModel_act_5 : decode kY_TrustDeskModel_act.2.1 5 = .ok (.iload_n 1, 1) := by decide +kernel
theorem d_TrustDeskModel_act_6 : decode kY_TrustDeskModel_act.2.1 6 = .ok (.i2l, 1) := by decide +kernel
theorem d_TrustDeskModel_act_7 : decode kY_TrustDeskModel_act.2.1 7 = .ok (.lconst 0, 1) := by decide +kernel
theorem d_TrustDeskModel_act_8 : decode kY_TrustDeskModel_act.2.1 8 = .ok (.ldc2_w 376, 3) := by decide +kernel
theorem k_TrustDeskModel_376 : Cond.constantLong "TrustDeskModel" 376 36000 ∈ mj_T := (mj_in1 (List.mem_of_getElem? (i := 1647) (by decide +kernel)) rfl)
theorem d_TrustDeskModel_act_11 : decode kY_TrustDeskModel_act.2.1 11 = .ok (.invokestatic 169, 3) := by decide +kernel
theorem c_TrustDeskModel_within_2 {g : mj_G} {l : Launch} {d nx : Nat} {M : mj_M} {x0 : Int64} : mj_Met g l kY_TrustDeskModel_within d [.long x0, .long 0, .long 36000] M nx 0 0 (mj_B (0 ≤ x0.toInt ∧ x0.toInt ≤ 36000) M nx) := by
  refine mj_enter (by decide) (Nat.le_of_ble_eq_true rfl) ?_
  refine mv_lload_n d_TrustDeskModel_within_0 rfl rfl ?_
  refine mv_lload_n d_TrustDeskModel_within_1 rfl rfl ?_
  refine mv_lltZ (tgt := 17) (a := x0.toInt) (b := 0) d_TrustDeskModel_within_2 d_TrustDeskModel_within_3 (by decide) rfl (by decide) (fun b1 => ?_) (fun b1 => ?_)
  · refine mv_iconst (v := 0) d_TrustDeskModel_within_17 (by decide) ?_
    exact mv_iret d_TrustDeskModel_within_18 rfl (by first | rfl | decide) ⟨Or.inr ⟨by omega, rfl⟩, rfl, rfl⟩
  · refine mv_lload_n d_TrustDeskModel_within_6 rfl rfl ?_
    refine mv_lload d_TrustDeskModel_within_7 rfl ?_
    refine mv_lgtZ (tgt := 17) (a := x0.toInt) (b := 36000) d_TrustDeskModel_within_9 d_TrustDeskModel_within_10 (by decide) rfl (by decide) (fun b2 => ?_) (fun b2 => ?_)
    · refine mv_iconst (v := 0) d_TrustDeskModel_within_17 (by decide) ?_
      exact mv_iret d_TrustDeskModel_within_18 rfl (by first | rfl | decide) ⟨Or.inr ⟨by omega, rfl⟩, rfl, rfl⟩
    · refine mv_iconst (v := 1) d_TrustDeskModel_within_13 (by decide) ?_
      refine mv_goto (tgt := 18) d_TrustDeskModel_within_14 (by decide) ?_
      exact mv_iret d_TrustDeskModel_within_18 rfl (by first | rfl | decide) ⟨Or.inl ⟨by omega, rfl⟩, rfl, rfl⟩
theorem d_TrustDeskModel_act_14 : decode kY_TrustDeskModel_act.2.1 14 = .ok (.ifCond .eq 12, 3) := by decide +kernel
theorem d_TrustDeskModel_act_17 : decode kY_TrustDeskModel_act.2.1 17 = .ok (.aload_n 0, 1) := by decide +kernel
theorem d_TrustDeskModel_act_18 : decode kY_TrustDeskModel_act.2.1 18 = .ok (.getfield 378, 3) := by decide +kernel
theorem f_TrustDeskModel_378_13 : mj_fl "TrustDeskModel" 378 13 27 := ⟨kR_TrustDeskModel, kF_TrustDeskModel, 72, "TrustDeskModel", rfl, kg_13, by decide, (mj_in1 (List.mem_of_getElem? (i := 1417) (by decide +kernel)) rfl), Or.inl rfl⟩
theorem d_TrustDeskModel_act_21 : decode kY_TrustDeskModel_act.2.1 21 = .ok (.bipush 20, 2) := by decide +kernel
theorem d_TrustDeskModel_act_23 : decode kY_TrustDeskModel_act.2.1 23 = .ok (.if_icmp .ne 5, 3) := by decide +kernel
theorem d_TrustDeskModel_act_28 : decode kY_TrustDeskModel_act.2.1 28 = .ok (.aload_n 0, 1) := by decide +kernel
theorem d_TrustDeskModel_act_29 : decode kY_TrustDeskModel_act.2.1 29 = .ok (.iconst 1, 1) := by decide +kernel
theorem d_TrustDeskModel_act_30 : decode kY_TrustDeskModel_act.2.1 30 = .ok (.invokevirtual 381, 3) := by decide +kernel
abbrev kY_TrustDeskModel_starts : mj_Y := (⟨"TrustDeskModel", "starts", "(Z)V"⟩, prog_14_method_41_code, 2, (Option.none : Option Jvm.ClassFile.FieldType))
theorem lV_TrustDeskModel_381 : mj_lV "TrustDeskModel" 381 kY_TrustDeskModel_starts 1 := ⟨⟨(mj_in1 (List.mem_of_getElem? (i := 1648) (by decide +kernel)) rfl), (mj_in1 (List.mem_of_getElem? (i := 10) (by decide +kernel)) rfl), (mj_in1 (List.mem_of_getElem? (i := 1651) (by decide +kernel)) rfl), by decide, rfl, by decide⟩, (mj_in1 (List.mem_of_getElem? (i := 1650) (by decide +kernel)) rfl), (mj_in (List.mem_append_left _ (List.mem_of_getElem? (i := 80) (by decide +kernel))) rfl)⟩
theorem d_TrustDeskModel_starts_0 : decode kY_TrustDeskModel_starts.2.1 0 = .ok (.aload_n 0, 1) := by decide +kernel
theorem d_TrustDeskModel_starts_1 : decode kY_TrustDeskModel_starts.2.1 1 = .ok (.iload_n 1, 1) := by decide +kernel
theorem d_TrustDeskModel_starts_2 : decode kY_TrustDeskModel_starts.2.1 2 = .ok (.putfield 267, 3) := by decide +kernel
theorem p_TrustDeskModel_267_13 : mj_fp "TrustDeskModel" 267 13 23 (kt_TrustDeskModel 23) false := ⟨kR_TrustDeskModel, kF_TrustDeskModel, 72, "TrustDeskModel", kt_TrustDeskModel, rfl, kg_13, by decide, (mj_in1 (List.mem_of_getElem? (i := 1413) (by decide +kernel)) rfl), Or.inl rfl, kto_TrustDeskModel, kn_TrustDeskModel, rfl, rfl, fun h => by cases h⟩
theorem d_TrustDeskModel_starts_5 : decode kY_TrustDeskModel_starts.2.1 5 = .ok (.aload_n 0, 1) := by decide +kernel
theorem d_TrustDeskModel_starts_6 : decode kY_TrustDeskModel_starts.2.1 6 = .ok (.iconst 0, 1) := by decide +kernel
theorem d_TrustDeskModel_starts_7 : decode kY_TrustDeskModel_starts.2.1 7 = .ok (.putfield 224, 3) := by decide +kernel
theorem p_TrustDeskModel_224_13 : mj_fp "TrustDeskModel" 224 13 19 (kt_TrustDeskModel 19) false := ⟨kR_TrustDeskModel, kF_TrustDeskModel, 72, "TrustDeskModel", kt_TrustDeskModel, rfl, kg_13, by decide, (mj_in1 (List.mem_of_getElem? (i := 1409) (by decide +kernel)) rfl), Or.inl rfl, kto_TrustDeskModel, kn_TrustDeskModel, rfl, rfl, fun h => by cases h⟩
theorem d_TrustDeskModel_starts_10 : decode kY_TrustDeskModel_starts.2.1 10 = .ok (.aload_n 0, 1) := by decide +kernel
theorem d_TrustDeskModel_starts_11 : decode kY_TrustDeskModel_starts.2.1 11 = .ok (.iconst 0, 1) := by decide +kernel
theorem d_TrustDeskModel_starts_12 : decode kY_TrustDeskModel_starts.2.1 12 = .ok (.putfield 192, 3) := by decide +kernel
theorem p_TrustDeskModel_192_13 : mj_fp "TrustDeskModel" 192 13 15 (kt_TrustDeskModel 15) false := ⟨kR_TrustDeskModel, kF_TrustDeskModel, 72, "TrustDeskModel", kt_TrustDeskModel, rfl, kg_13, by decide, (mj_in1 (List.mem_of_getElem? (i := 1405) (by decide +kernel)) rfl), Or.inl rfl, kto_TrustDeskModel, kn_TrustDeskModel, rfl, rfl, fun h => by cases h⟩
theorem d_TrustDeskModel_starts_15 : decode kY_TrustDeskModel_starts.2.1 15 = .ok (.aload_n 0, 1) := by decide +kernel
theorem d_TrustDeskModel_starts_16 : decode kY_TrustDeskModel_starts.2.1 16 = .ok (.iconst 0, 1) := by decide +kernel
theorem d_TrustDeskModel_starts_17 : decode kY_TrustDeskModel_starts.2.1 17 = .ok (.putfield 276, 3) := by decide +kernel
theorem p_TrustDeskModel_276_13 : mj_fp "TrustDeskModel" 276 13 22 (kt_TrustDeskModel 22) false := ⟨kR_TrustDeskModel, kF_TrustDeskModel, 72, "TrustDeskModel", kt_TrustDeskModel, rfl, kg_13, by decide, (mj_in1 (List.mem_of_getElem? (i := 1412) (by decide +kernel)) rfl), Or.inl rfl, kto_TrustDeskModel, kn_TrustDeskModel, rfl, rfl, fun h => by cases h⟩
theorem d_TrustDeskModel_starts_20 : decode kY_TrustDeskModel_starts.2.1 20 = .ok (.aload_n 0, 1) := by decide +kernel
theorem d_TrustDeskModel_starts_21 : decode kY_TrustDeskModel_starts.2.1 21 = .ok (.iconst 0, 1) := by decide +kernel
theorem d_TrustDeskModel_starts_22 : decode kY_TrustDeskModel_starts.2.1 22 = .ok (.putfield 321, 3) := by decide +kernel
theorem p_TrustDeskModel_321_13 : mj_fp "TrustDeskModel" 321 13 24 (kt_TrustDeskModel 24) false := ⟨kR_TrustDeskModel, kF_TrustDeskModel, 72, "TrustDeskModel", kt_TrustDeskModel, rfl, kg_13, by decide, (mj_in1 (List.mem_of_getElem? (i := 1414) (by decide +kernel)) rfl), Or.inl rfl, kto_TrustDeskModel, kn_TrustDeskModel, rfl, rfl, fun h => by cases h⟩
theorem d_TrustDeskModel_starts_25 : decode kY_TrustDeskModel_starts.2.1 25 = .ok (.aload_n 0, 1) := by decide +kernel
theorem d_TrustDeskModel_starts_26 : decode kY_TrustDeskModel_starts.2.1 26 = .ok (.getfield 20, 3) := by decide +kernel
theorem f_TrustDeskModel_20_13 : mj_fl "TrustDeskModel" 20 13 5 := ⟨kR_TrustDeskModel, kF_TrustDeskModel, 72, "TrustDeskModel", rfl, kg_13, by decide, (mj_in1 (List.mem_of_getElem? (i := 1395) (by decide +kernel)) rfl), Or.inl rfl⟩
theorem d_TrustDeskModel_starts_29 : decode kY_TrustDeskModel_starts.2.1 29 = .ok (.bipush 44, 2) := by decide +kernel
theorem d_TrustDeskModel_starts_31 : decode kY_TrustDeskModel_starts.2.1 31 = .ok (.iconst 0, 1) := by decide +kernel
theorem d_TrustDeskModel_starts_32 : decode kY_TrustDeskModel_starts.2.1 32 = .ok (.iastore, 1) := by decide +kernel
theorem d_TrustDeskModel_starts_33 : decode kY_TrustDeskModel_starts.2.1 33 = .ok (.aload_n 0, 1) := by decide +kernel
theorem d_TrustDeskModel_starts_34 : decode kY_TrustDeskModel_starts.2.1 34 = .ok (.getfield 23, 3) := by decide +kernel
theorem f_TrustDeskModel_23_13 : mj_fl "TrustDeskModel" 23 13 6 := ⟨kR_TrustDeskModel, kF_TrustDeskModel, 72, "TrustDeskModel", rfl, kg_13, by decide, (mj_in1 (List.mem_of_getElem? (i := 1396) (by decide +kernel)) rfl), Or.inl rfl⟩
theorem d_TrustDeskModel_starts_37 : decode kY_TrustDeskModel_starts.2.1 37 = .ok (.bipush 44, 2) := by decide +kernel
theorem d_TrustDeskModel_starts_39 : decode kY_TrustDeskModel_starts.2.1 39 = .ok (.iconst 0, 1) := by decide +kernel
theorem d_TrustDeskModel_starts_40 : decode kY_TrustDeskModel_starts.2.1 40 = .ok (.iastore, 1) := by decide +kernel
theorem d_TrustDeskModel_starts_41 : decode kY_TrustDeskModel_starts.2.1 41 = .ok (.aload_n 0, 1) := by decide +kernel
theorem d_TrustDeskModel_starts_42 : decode kY_TrustDeskModel_starts.2.1 42 = .ok (.invokevirtual 237, 3) := by decide +kernel
abbrev kY_TrustDeskModel_next : mj_Y := (⟨"TrustDeskModel", "next", "()V"⟩, prog_14_method_16_code, 2, (Option.none : Option Jvm.ClassFile.FieldType))
theorem lV_TrustDeskModel_237 : mj_lV "TrustDeskModel" 237 kY_TrustDeskModel_next 0 := ⟨⟨(mj_in1 (List.mem_of_getElem? (i := 1652) (by decide +kernel)) rfl), (mj_in1 (List.mem_of_getElem? (i := 10) (by decide +kernel)) rfl), (mj_in1 (List.mem_of_getElem? (i := 1655) (by decide +kernel)) rfl), by decide, rfl, by decide⟩, (mj_in1 (List.mem_of_getElem? (i := 1654) (by decide +kernel)) rfl), (mj_in (List.mem_append_left _ (List.mem_of_getElem? (i := 81) (by decide +kernel))) rfl)⟩
theorem d_TrustDeskModel_next_0 : decode kY_TrustDeskModel_next.2.1 0 = .ok (.aload_n 0, 1) := by decide +kernel
theorem d_TrustDeskModel_next_1 : decode kY_TrustDeskModel_next.2.1 1 = .ok (.getfield 192, 3) := by decide +kernel
theorem f_TrustDeskModel_192_13 : mj_fl "TrustDeskModel" 192 13 15 := ⟨kR_TrustDeskModel, kF_TrustDeskModel, 72, "TrustDeskModel", rfl, kg_13, by decide, (mj_in1 (List.mem_of_getElem? (i := 1405) (by decide +kernel)) rfl), Or.inl rfl⟩
theorem d_TrustDeskModel_next_4 : decode kY_TrustDeskModel_next.2.1 4 = .ok (.aload_n 0, 1) := by decide +kernel
theorem d_TrustDeskModel_next_5 : decode kY_TrustDeskModel_next.2.1 5 = .ok (.getfield 189, 3) := by decide +kernel
theorem d_TrustDeskModel_next_8 : decode kY_TrustDeskModel_next.2.1 8 = .ok (.if_icmp .ge 44, 3) := by decide +kernel
theorem d_TrustDeskModel_next_52 : decode kY_TrustDeskModel_next.2.1 52 = .ok (.aload_n 0, 1) := by decide +kernel
theorem d_TrustDeskModel_next_53 : decode kY_TrustDeskModel_next.2.1 53 = .ok (.aload_n 0, 1) := by decide +kernel
theorem d_TrustDeskModel_next_54 : decode kY_TrustDeskModel_next.2.1 54 = .ok (.getfield 192, 3) := by decide +kernel
theorem d_TrustDeskModel_next_57 : decode kY_TrustDeskModel_next.2.1 57 = .ok (.putfield 195, 3) := by decide +kernel
theorem p_TrustDeskModel_195_13 : mj_fp "TrustDeskModel" 195 13 16 (kt_TrustDeskModel 16) false := ⟨kR_TrustDeskModel, kF_TrustDeskModel, 72, "TrustDeskModel", kt_TrustDeskModel, rfl, kg_13, by decide, (mj_in1 (List.mem_of_getElem? (i := 1406) (by decide +kernel)) rfl), Or.inl rfl, kto_TrustDeskModel, kn_TrustDeskModel, rfl, rfl, fun h => by cases h⟩
theorem d_TrustDeskModel_next_60 : decode kY_TrustDeskModel_next.2.1 60 = .ok (.aload_n 0, 1) := by decide +kernel
theorem d_TrustDeskModel_next_61 : decode kY_TrustDeskModel_next.2.1 61 = .ok (.getfield 192, 3) := by decide +kernel
theorem d_TrustDeskModel_next_64 : decode kY_TrustDeskModel_next.2.1 64 = .ok (.aload_n 0, 1) := by decide +kernel
theorem d_TrustDeskModel_next_65 : decode kY_TrustDeskModel_next.2.1 65 = .ok (.getfield 189, 3) := by decide +kernel
theorem d_TrustDeskModel_next_68 : decode kY_TrustDeskModel_next.2.1 68 = .ok (.if_icmp .lt 9, 3) := by decide +kernel
theorem d_TrustDeskModel_next_71 : decode kY_TrustDeskModel_next.2.1 71 = .ok (.aload_n 0, 1) := by decide +kernel
theorem d_TrustDeskModel_next_72 : decode kY_TrustDeskModel_next.2.1 72 = .ok (.iconst 0, 1) := by decide +kernel
theorem d_TrustDeskModel_next_73 : decode kY_TrustDeskModel_next.2.1 73 = .ok (.putfield 198, 3) := by decide +kernel
theorem p_TrustDeskModel_198_13 : mj_fp "TrustDeskModel" 198 13 17 (kt_TrustDeskModel 17) false := ⟨kR_TrustDeskModel, kF_TrustDeskModel, 72, "TrustDeskModel", kt_TrustDeskModel, rfl, kg_13, by decide, (mj_in1 (List.mem_of_getElem? (i := 1407) (by decide +kernel)) rfl), Or.inl rfl, kto_TrustDeskModel, kn_TrustDeskModel, rfl, rfl, fun h => by cases h⟩
theorem d_TrustDeskModel_next_76 : decode kY_TrustDeskModel_next.2.1 76 = .ok (.return_, 1) := by decide +kernel
theorem c_TrustDeskModel_next_0 {g : mj_G} {l : Launch} {d nx : Nat} {M : mj_M} (h_99 : M 99 = some (.inr (13, [.int 0, .int 0, .int 0, .ref 100, .ref 101, .ref 102, .ref 103, .ref 104, .ref 105, .ref 106, .ref 107, .ref 108, .ref 109, .ref 110, .int 0, .int 0, .int 0, .int 0, .int 0, .int 0, .int 0, .int (-1), .int 0, .int 1, .int 0, .ref 111, .ref 112, .int 0, .ref 113, .ref 114, .ref 115, .int 0, .int 0, .ref 116, .ref 117, .ref 118, .ref 119, .ref 120, .ref 121, .ref 122, .ref 123, .ref 124, .ref 125, .ref 126, .ref 127, .ref 128, .ref 129, .ref 130, .ref 131, .int 0, .ref 132, .int 0, .ref 133, .int 0, .ref 134, .ref 135, .ref 136, .ref 137, .ref 138, .ref 139, .ref 140, .ref 141, .ref 142, .ref 143, .ref 144, .ref 145, .ref 146, .int 0, .long 0, .int 0, .int 0, .ref 147]))) : mj_Met g l kY_TrustDeskModel_next d [.ref 99] M nx 0 0 (mj_E1 none (mj_up (mj_up M 99 (.inr (13, [.int 0, .int 0, .int 0, .ref 100, .ref 101, .ref 102, .ref 103, .ref 104, .ref 105, .ref 106, .ref 107, .ref 108, .ref 109, .ref 110, .int 0, .int 0, .int 0, .int 0, .int 0, .int 0, .int 0, .int (-1), .int 0, .int 1, .int 0, .ref 111, .ref 112, .int 0, .ref 113, .ref 114, .ref 115, .int 0, .int 0, .ref 116, .ref 117, .ref 118, .ref 119, .ref 120, .ref 121, .ref 122, .ref 123, .ref 124, .ref 125, .ref 126, .ref 127, .ref 128, .ref 129, .ref 130, .ref 131, .int 0, .ref 132, .int 0, .ref 133, .int 0, .ref 134, .ref 135, .ref 136, .ref 137, .ref 138, .ref 139, .ref 140, .ref 141, .ref 142, .ref 143, .ref 144, .ref 145, .ref 146, .int 0, .long 0, .int 0, .int 0, .ref 147]))) 99 (.inr (13, [.int 0, .int 0, .int 0, .ref 100, .ref 101, .ref 102, .ref 103, .ref 104, .ref 105, .ref 106, .ref 107, .ref 108, .ref 109, .ref 110, .int 0, .int 0, .int 0, .int 0, .int 0, .int 0, .int 0, .int (-1), .int 0, .int 1, .int 0, .ref 111, .ref 112, .int 0, .ref 113, .ref 114, .ref 115, .int 0, .int 0, .ref 116, .ref 117, .ref 118, .ref 119, .ref 120, .ref 121, .ref 122, .ref 123, .ref 124, .ref 125, .ref 126, .ref 127, .ref 128, .ref 129, .ref 130, .ref 131, .int 0, .ref 132, .int 0, .ref 133, .int 0, .ref 134, .ref 135, .ref 136, .ref 137, .ref 138, .ref 139, .ref 140, .ref 141, .ref 142, .ref 143, .ref 144, .ref 145, .ref 146, .int 0, .long 0, .int 0, .int 0, .ref 147]))) nx) := by
  refine mj_enter (by decide) (Nat.le_of_ble_eq_true rfl) ?_
  refine mv_aload_n d_TrustDeskModel_next_0 rfl rfl ?_
  refine mv_get d_TrustDeskModel_next_1 f_TrustDeskModel_192_13 h_99 rfl ?_
  refine mv_aload_n d_TrustDeskModel_next_4 rfl rfl ?_
  refine mv_get d_TrustDeskModel_next_5 f_TrustDeskModel_189_13 h_99 rfl ?_
  refine mv_icmp_ge_t (tgt := 52) d_TrustDeskModel_next_8 (by decide) (by decide) ?_
  refine mv_aload_n d_TrustDeskModel_next_52 rfl rfl ?_
  refine mv_aload_n d_TrustDeskModel_next_53 rfl rfl ?_
  refine mv_get d_TrustDeskModel_next_54 f_TrustDeskModel_192_13 h_99 rfl ?_
  refine mv_put (fs' := [.int 0, .int 0, .int 0, .ref 100, .ref 101, .ref 102, .ref 103, .ref 104, .ref 105, .ref 106, .ref 107, .ref 108, .ref 109, .ref 110, .int 0, .int 0, .int 0, .int 0, .int 0, .int 0, .int 0, .int (-1), .int 0, .int 1, .int 0, .ref 111, .ref 112, .int 0, .ref 113, .ref 114, .ref 115, .int 0, .int 0, .ref 116, .ref 117, .ref 118, .ref 119, .ref 120, .ref 121, .ref 122, .ref 123, .ref 124, .ref 125, .ref 126, .ref 127, .ref 128, .ref 129, .ref 130, .ref 131, .int 0, .ref 132, .int 0, .ref 133, .int 0, .ref 134, .ref 135, .ref 136, .ref 137, .ref 138, .ref 139, .ref 140, .ref 141, .ref 142, .ref 143, .ref 144, .ref 145, .ref 146, .int 0, .long 0, .int 0, .int 0, .ref 147]) d_TrustDeskModel_next_57 p_TrustDeskModel_195_13 h_99 (Nat.le_of_ble_eq_true rfl) rfl rfl rfl ?_
  refine mv_aload_n d_TrustDeskModel_next_60 rfl rfl ?_
  refine mv_get d_TrustDeskModel_next_61 f_TrustDeskModel_192_13 (mj_up_self _ _ _) rfl ?_
  refine mv_aload_n d_TrustDeskModel_next_64 rfl rfl ?_
  refine mv_get d_TrustDeskModel_next_65 f_TrustDeskModel_189_13 (mj_up_self _ _ _) rfl ?_
  refine mv_icmp_lt_f (tgt := 77) d_TrustDeskModel_next_68 (by decide) (by decide) ?_
  refine mv_aload_n d_TrustDeskModel_next_71 rfl rfl ?_
  refine mv_iconst (v := 0) d_TrustDeskModel_next_72 (by decide) ?_
  refine mv_put (fs' := [.int 0, .int 0, .int 0, .ref 100, .ref 101, .ref 102, .ref 103, .ref 104, .ref 105, .ref 106, .ref 107, .ref 108, .ref 109, .ref 110, .int 0, .int 0, .int 0, .int 0, .int 0, .int 0, .int 0, .int (-1), .int 0, .int 1, .int 0, .ref 111, .ref 112, .int 0, .ref 113, .ref 114, .ref 115, .int 0, .int 0, .ref 116, .ref 117, .ref 118, .ref 119, .ref 120, .ref 121, .ref 122, .ref 123, .ref 124, .ref 125, .ref 126, .ref 127, .ref 128, .ref 129, .ref 130, .ref 131, .int 0, .ref 132, .int 0, .ref 133, .int 0, .ref 134, .ref 135, .ref 136, .ref 137, .ref 138, .ref 139, .ref 140, .ref 141, .ref 142, .ref 143, .ref 144, .ref 145, .ref 146, .int 0, .long 0, .int 0, .int 0, .ref 147]) d_TrustDeskModel_next_73 p_TrustDeskModel_198_13 (mj_up_self _ _ _) (Nat.le_of_ble_eq_true rfl) rfl rfl rfl ?_
  exact mv_vret d_TrustDeskModel_next_76 rfl ⟨rfl, rfl, rfl⟩
theorem d_TrustDeskModel_starts_45 : decode kY_TrustDeskModel_starts.2.1 45 = .ok (.return_, 1) := by decide +kernel
theorem c_TrustDeskModel_starts_0 {g : mj_G} {l : Launch} {d nx : Nat} {M : mj_M} (h_99 : M 99 = some (.inr (13, [.int 0, .int 0, .int 0, .ref 100, .ref 101, .ref 102, .ref 103, .ref 104, .ref 105, .ref 106, .ref 107, .ref 108, .ref 109, .ref 110, .int 0, .int 0, .int 0, .int 0, .int 0, .int 0, .int 0, .int (-1), .int 0, .int 0, .int 0, .ref 111, .ref 112, .int 0, .ref 113, .ref 114, .ref 115, .int 0, .int 0, .ref 116, .ref 117, .ref 118, .ref 119, .ref 120, .ref 121, .ref 122, .ref 123, .ref 124, .ref 125, .ref 126, .ref 127, .ref 128, .ref 129, .ref 130, .ref 131, .int 0, .ref 132, .int 0, .ref 133, .int 0, .ref 134, .ref 135, .ref 136, .ref 137, .ref 138, .ref 139, .ref 140, .ref 141, .ref 142, .ref 143, .ref 144, .ref 145, .ref 146, .int 0, .long 0, .int 0, .int 0, .ref 147]))) (h_102 : M 102 = some (.inl (0, 45, .inl (fun _ => 0)))) (h_103 : M 103 = some (.inl (0, 45, .inl (fun _ => 0)))) : mj_Met g l kY_TrustDeskModel_starts (d + 1) [.ref 99, .int 1] M nx 0 0 (mj_E1 none (mj_up (mj_up (mj_up (mj_up (mj_up (mj_up (mj_up (mj_up (mj_up M 99 (.inr (13, [.int 0, .int 0, .int 0, .ref 100, .ref 101, .ref 102, .ref 103, .ref 104, .ref 105, .ref 106, .ref 107, .ref 108, .ref 109, .ref 110, .int 0, .int 0, .int 0, .int 0, .int 0, .int 0, .int 0, .int (-1), .int 0, .int 1, .int 0, .ref 111, .ref 112, .int 0, .ref 113, .ref 114, .ref 115, .int 0, .int 0, .ref 116, .ref 117, .ref 118, .ref 119, .ref 120, .ref 121, .ref 122, .ref 123, .ref 124, .ref 125, .ref 126, .ref 127, .ref 128, .ref 129, .ref 130, .ref 131, .int 0, .ref 132, .int 0, .ref 133, .int 0, .ref 134, .ref 135, .ref 136, .ref 137, .ref 138, .ref 139, .ref 140, .ref 141, .ref 142, .ref 143, .ref 144, .ref 145, .ref 146, .int 0, .long 0, .int 0, .int 0, .ref 147]))) 99 (.inr (13, [.int 0, .int 0, .int 0, .ref 100, .ref 101, .ref 102, .ref 103, .ref 104, .ref 105, .ref 106, .ref 107, .ref 108, .ref 109, .ref 110, .int 0, .int 0, .int 0, .int 0, .int 0, .int 0, .int 0, .int (-1), .int 0, .int 1, .int 0, .ref 111, .ref 112, .int 0, .ref 113, .ref 114, .ref 115, .int 0, .int 0, .ref 116, .ref 117, .ref 118, .ref 119, .ref 120, .ref 121, .ref 122, .ref 123, .ref 124, .ref 125, .ref 126, .ref 127, .ref 128, .ref 129, .ref 130, .ref 131, .int 0, .ref 132, .int 0, .ref 133, .int 0, .ref 134, .ref 135, .ref 136, .ref 137, .ref 138, .ref 139, .ref 140, .ref 141, .ref 142, .ref 143, .ref 144, .ref 145, .ref 146, .int 0, .long 0, .int 0, .int 0, .ref 147]))) 99 (.inr (13, [.int 0, .int 0, .int 0, .ref 100, .ref 101, .ref 102, .ref 103, .ref 104, .ref 105, .ref 106, .ref 107, .ref 108, .ref 109, .ref 110, .int 0, .int 0, .int 0, .int 0, .int 0, .int 0, .int 0, .int (-1), .int 0, .int 1, .int 0, .ref 111, .ref 112, .int 0, .ref 113, .ref 114, .ref 115, .int 0, .int 0, .ref 116, .ref 117, .ref 118, .ref 119, .ref 120, .ref 121, .ref 122, .ref 123, .ref 124, .ref 125, .ref 126, .ref 127, .ref 128, .ref 129, .ref 130, .ref 131, .int 0, .ref 132, .int 0, .ref 133, .int 0, .ref 134, .ref 135, .ref 136, .ref 137, .ref 138, .ref 139, .ref 140, .ref 141, .ref 142, .ref 143, .ref 144, .ref 145, .ref 146, .int 0, .long 0, .int 0, .int 0, .ref 147]))) 99 (.inr (13, [.int 0, .int 0, .int 0, .ref 100, .ref 101, .ref 102, .ref 103, .ref 104, .ref 105, .ref 106, .ref 107, .ref 108, .ref 109, .ref 110, .int 0, .int 0, .int 0, .int 0, .int 0, .int 0, .int 0, .int (-1), .int 0, .int 1, .int 0, .ref 111, .ref 112, .int 0, .ref 113, .ref 114, .ref 115, .int 0, .int 0, .ref 116, .ref 117, .ref 118, .ref 119, .ref 120, .ref 121, .ref 122, .ref 123, .ref 124, .ref 125, .ref 126, .ref 127, .ref 128, .ref 129, .ref 130, .ref 131, .int 0, .ref 132, .int 0, .ref 133, .int 0, .ref 134, .ref 135, .ref 136, .ref 137, .ref 138, .ref 139, .ref 140, .ref 141, .ref 142, .ref 143, .ref 144, .ref 145, .ref 146, .int 0, .long 0, .int 0, .int 0, .ref 147]))) 99 (.inr (13, [.int 0, .int 0, .int 0, .ref 100, .ref 101, .ref 102, .ref 103, .ref 104, .ref 105, .ref 106, .ref 107, .ref 108, .ref 109, .ref 110, .int 0, .int 0, .int 0, .int 0, .int 0, .int 0, .int 0, .int (-1), .int 0, .int 1, .int 0, .ref 111, .ref 112, .int 0, .ref 113, .ref 114, .ref 115, .int 0, .int 0, .ref 116, .ref 117, .ref 118, .ref 119, .ref 120, .ref 121, .ref 122, .ref 123, .ref 124, .ref 125, .ref 126, .ref 127, .ref 128, .ref 129, .ref 130, .ref 131, .int 0, .ref 132, .int 0, .ref 133, .int 0, .ref 134, .ref 135, .ref 136, .ref 137, .ref 138, .ref 139, .ref 140, .ref 141, .ref 142, .ref 143, .ref 144, .ref 145, .ref 146, .int 0, .long 0, .int 0, .int 0, .ref 147]))) 102 (.inl (0, 45, .inl (upd (fun _ => 0) 44 0)))) 103 (.inl (0, 45, .inl (upd (fun _ => 0) 44 0)))) 99 (.inr (13, [.int 0, .int 0, .int 0, .ref 100, .ref 101, .ref 102, .ref 103, .ref 104, .ref 105, .ref 106, .ref 107, .ref 108, .ref 109, .ref 110, .int 0, .int 0, .int 0, .int 0, .int 0, .int 0, .int 0, .int (-1), .int 0, .int 1, .int 0, .ref 111, .ref 112, .int 0, .ref 113, .ref 114, .ref 115, .int 0, .int 0, .ref 116, .ref 117, .ref 118, .ref 119, .ref 120, .ref 121, .ref 122, .ref 123, .ref 124, .ref 125, .ref 126, .ref 127, .ref 128, .ref 129, .ref 130, .ref 131, .int 0, .ref 132, .int 0, .ref 133, .int 0, .ref 134, .ref 135, .ref 136, .ref 137, .ref 138, .ref 139, .ref 140, .ref 141, .ref 142, .ref 143, .ref 144, .ref 145, .ref 146, .int 0, .long 0, .int 0, .int 0, .ref 147]))) 99 (.inr (13, [.int 0, .int 0, .int 0, .ref 100, .ref 101, .ref 102, .ref 103, .ref 104, .ref 105, .ref 106, .ref 107, .ref 108, .ref 109, .ref 110, .int 0, .int 0, .int 0, .int 0, .int 0, .int 0, .int 0, .int (-1), .int 0, .int 1, .int 0, .ref 111, .ref 112, .int 0, .ref 113, .ref 114, .ref 115, .int 0, .int 0, .ref 116, .ref 117, .ref 118, .ref 119, .ref 120, .ref 121, .ref 122, .ref 123, .ref 124, .ref 125, .ref 126, .ref 127, .ref 128, .ref 129, .ref 130, .ref 131, .int 0, .ref 132, .int 0, .ref 133, .int 0, .ref 134, .ref 135, .ref 136, .ref 137, .ref 138, .ref 139, .ref 140, .ref 141, .ref 142, .ref 143, .ref 144, .ref 145, .ref 146, .int 0, .long 0, .int 0, .int 0, .ref 147]))) nx) := by
  refine mj_enter (by decide) (Nat.le_of_ble_eq_true rfl) ?_
  refine mv_aload_n d_TrustDeskModel_starts_0 rfl rfl ?_
  refine mv_iload_n d_TrustDeskModel_starts_1 rfl rfl ?_
  refine mv_put (fs' := [.int 0, .int 0, .int 0, .ref 100, .ref 101, .ref 102, .ref 103, .ref 104, .ref 105, .ref 106, .ref 107, .ref 108, .ref 109, .ref 110, .int 0, .int 0, .int 0, .int 0, .int 0, .int 0, .int 0, .int (-1), .int 0, .int 1, .int 0, .ref 111, .ref 112, .int 0, .ref 113, .ref 114, .ref 115, .int 0, .int 0, .ref 116, .ref 117, .ref 118, .ref 119, .ref 120, .ref 121, .ref 122, .ref 123, .ref 124, .ref 125, .ref 126, .ref 127, .ref 128, .ref 129, .ref 130, .ref 131, .int 0, .ref 132, .int 0, .ref 133, .int 0, .ref 134, .ref 135, .ref 136, .ref 137, .ref 138, .ref 139, .ref 140, .ref 141, .ref 142, .ref 143, .ref 144, .ref 145, .ref 146, .int 0, .long 0, .int 0, .int 0, .ref 147]) d_TrustDeskModel_starts_2 p_TrustDeskModel_267_13 h_99 (Nat.le_of_ble_eq_true rfl) (by decide) (by decide) rfl ?_
  refine mv_aload_n d_TrustDeskModel_starts_5 rfl rfl ?_
  refine mv_iconst (v := 0) d_TrustDeskModel_starts_6 (by decide) ?_
  refine mv_put (fs' := [.int 0, .int 0, .int 0, .ref 100, .ref 101, .ref 102, .ref 103, .ref 104, .ref 105, .ref 106, .ref 107, .ref 108, .ref 109, .ref 110, .int 0, .int 0, .int 0, .int 0, .int 0, .int 0, .int 0, .int (-1), .int 0, .int 1, .int 0, .ref 111, .ref 112, .int 0, .ref 113, .ref 114, .ref 115, .int 0, .int 0, .ref 116, .ref 117, .ref 118, .ref 119, .ref 120, .ref 121, .ref 122, .ref 123, .ref 124, .ref 125, .ref 126, .ref 127, .ref 128, .ref 129, .ref 130, .ref 131, .int 0, .ref 132, .int 0, .ref 133, .int 0, .ref 134, .ref 135, .ref 136, .ref 137, .ref 138, .ref 139, .ref 140, .ref 141, .ref 142, .ref 143, .ref 144, .ref 145, .ref 146, .int 0, .long 0, .int 0, .int 0, .ref 147]) d_TrustDeskModel_starts_7 p_TrustDeskModel_224_13 (mj_up_self _ _ _) (Nat.le_of_ble_eq_true rfl) rfl rfl rfl ?_
  refine mv_aload_n d_TrustDeskModel_starts_10 rfl rfl ?_
  refine mv_iconst (v := 0) d_TrustDeskModel_starts_11 (by decide) ?_
  refine mv_put (fs' := [.int 0, .int 0, .int 0, .ref 100, .ref 101, .ref 102, .ref 103, .ref 104, .ref 105, .ref 106, .ref 107, .ref 108, .ref 109, .ref 110, .int 0, .int 0, .int 0, .int 0, .int 0, .int 0, .int 0, .int (-1), .int 0, .int 1, .int 0, .ref 111, .ref 112, .int 0, .ref 113, .ref 114, .ref 115, .int 0, .int 0, .ref 116, .ref 117, .ref 118, .ref 119, .ref 120, .ref 121, .ref 122, .ref 123, .ref 124, .ref 125, .ref 126, .ref 127, .ref 128, .ref 129, .ref 130, .ref 131, .int 0, .ref 132, .int 0, .ref 133, .int 0, .ref 134, .ref 135, .ref 136, .ref 137, .ref 138, .ref 139, .ref 140, .ref 141, .ref 142, .ref 143, .ref 144, .ref 145, .ref 146, .int 0, .long 0, .int 0, .int 0, .ref 147]) d_TrustDeskModel_starts_12 p_TrustDeskModel_192_13 (mj_up_self _ _ _) (Nat.le_of_ble_eq_true rfl) rfl rfl rfl ?_
  refine mv_aload_n d_TrustDeskModel_starts_15 rfl rfl ?_
  refine mv_iconst (v := 0) d_TrustDeskModel_starts_16 (by decide) ?_
  refine mv_put (fs' := [.int 0, .int 0, .int 0, .ref 100, .ref 101, .ref 102, .ref 103, .ref 104, .ref 105, .ref 106, .ref 107, .ref 108, .ref 109, .ref 110, .int 0, .int 0, .int 0, .int 0, .int 0, .int 0, .int 0, .int (-1), .int 0, .int 1, .int 0, .ref 111, .ref 112, .int 0, .ref 113, .ref 114, .ref 115, .int 0, .int 0, .ref 116, .ref 117, .ref 118, .ref 119, .ref 120, .ref 121, .ref 122, .ref 123, .ref 124, .ref 125, .ref 126, .ref 127, .ref 128, .ref 129, .ref 130, .ref 131, .int 0, .ref 132, .int 0, .ref 133, .int 0, .ref 134, .ref 135, .ref 136, .ref 137, .ref 138, .ref 139, .ref 140, .ref 141, .ref 142, .ref 143, .ref 144, .ref 145, .ref 146, .int 0, .long 0, .int 0, .int 0, .ref 147]) d_TrustDeskModel_starts_17 p_TrustDeskModel_276_13 (mj_up_self _ _ _) (Nat.le_of_ble_eq_true rfl) rfl rfl rfl ?_
  refine mv_aload_n d_TrustDeskModel_starts_20 rfl rfl ?_
  refine mv_iconst (v := 0) d_TrustDeskModel_starts_21 (by decide) ?_
  refine mv_put (fs' := [.int 0, .int 0, .int 0, .ref 100, .ref 101, .ref 102, .ref 103, .ref 104, .ref 105, .ref 106, .ref 107, .ref 108, .ref 109, .ref 110, .int 0, .int 0, .int 0, .int 0, .int 0, .int 0, .int 0, .int (-1), .int 0, .int 1, .int 0, .ref 111, .ref 112, .int 0, .ref 113, .ref 114, .ref 115, .int 0, .int 0, .ref 116, .ref 117, .ref 118, .ref 119, .ref 120, .ref 121, .ref 122, .ref 123, .ref 124, .ref 125, .ref 126, .ref 127, .ref 128, .ref 129, .ref 130, .ref 131, .int 0, .ref 132, .int 0, .ref 133, .int 0, .ref 134, .ref 135, .ref 136, .ref 137, .ref 138, .ref 139, .ref 140, .ref 141, .ref 142, .ref 143, .ref 144, .ref 145, .ref 146, .int 0, .long 0, .int 0, .int 0, .ref 147]) d_TrustDeskModel_starts_22 p_TrustDeskModel_321_13 (mj_up_self _ _ _) (Nat.le_of_ble_eq_true rfl) rfl rfl rfl ?_
  refine mv_aload_n d_TrustDeskModel_starts_25 rfl rfl ?_
  refine mv_get d_TrustDeskModel_starts_26 f_TrustDeskModel_20_13 (mj_up_self _ _ _) rfl ?_
  refine mv_bipush (v := 44) d_TrustDeskModel_starts_29 (by decide) ?_
  refine mv_iconst (v := 0) d_TrustDeskModel_starts_31 (by decide) ?_
  refine mv_iast (f' := (upd (fun _ => 0) 44 0)) d_TrustDeskModel_starts_32 ((mj_up_ne _ _ (Nat.ne_of_beq_eq_false rfl)).trans ((mj_up_ne _ _ (Nat.ne_of_beq_eq_false rfl)).trans ((mj_up_ne _ _ (Nat.ne_of_beq_eq_false rfl)).trans ((mj_up_ne _ _ (Nat.ne_of_beq_eq_false rfl)).trans ((mj_up_ne _ _ (Nat.ne_of_beq_eq_false rfl)).trans h_102))))) (by unfold vp_in; decide) rfl ?_
  refine mv_aload_n d_TrustDeskModel_starts_33 rfl rfl ?_
  refine mv_get d_TrustDeskModel_starts_34 f_TrustDeskModel_23_13 ((mj_up_ne _ _ (Nat.ne_of_beq_eq_false rfl)).trans (mj_up_self _ _ _)) rfl ?_
  refine mv_bipush (v := 44) d_TrustDeskModel_starts_37 (by decide) ?_
  refine mv_iconst (v := 0) d_TrustDeskModel_starts_39 (by decide) ?_
  refine mv_iast (f' := (upd (fun _ => 0) 44 0)) d_TrustDeskModel_starts_40 ((mj_up_ne _ _ (Nat.ne_of_beq_eq_false rfl)).trans ((mj_up_ne _ _ (Nat.ne_of_beq_eq_false rfl)).trans ((mj_up_ne _ _ (Nat.ne_of_beq_eq_false rfl)).trans ((mj_up_ne _ _ (Nat.ne_of_beq_eq_false rfl)).trans ((mj_up_ne _ _ (Nat.ne_of_beq_eq_false rfl)).trans ((mj_up_ne _ _ (Nat.ne_of_beq_eq_false rfl)).trans h_103)))))) (by unfold vp_in; decide) rfl ?_
  refine mv_aload_n d_TrustDeskModel_starts_41 rfl rfl ?_
  refine mv_callV_n (kc' := 0) (ks' := 0) [] [.ref 99] d_TrustDeskModel_starts_42 lV_TrustDeskModel_237 ((mj_up_ne _ _ (Nat.ne_of_beq_eq_false rfl)).trans ((mj_up_ne _ _ (Nat.ne_of_beq_eq_false rfl)).trans (mj_up_self _ _ _))) rfl (c_TrustDeskModel_next_0 (d := d) (h_99 := ((mj_up_ne _ _ (Nat.ne_of_beq_eq_false rfl)).trans ((mj_up_ne _ _ (Nat.ne_of_beq_eq_false rfl)).trans (mj_up_self _ _ _))))) rfl (Nat.le_of_ble_eq_true rfl) (Nat.le_of_ble_eq_true rfl) (Nat.le_of_ble_eq_true rfl) rfl ?_
  exact mv_vret d_TrustDeskModel_starts_45 rfl ⟨rfl, rfl, rfl⟩
theorem d_TrustDeskModel_act_33 : decode kY_TrustDeskModel_act.2.1 33 = .ok (.aload_n 0, 1) := by decide +kernel
theorem d_TrustDeskModel_act_34 : decode kY_TrustDeskModel_act.2.1 34 = .ok (.invokevirtual 230, 3) := by decide +kernel
abbrev kY_TrustDeskModel_isWell : mj_Y := (⟨"TrustDeskModel", "isWell", "()Z"⟩, prog_14_method_20_code, 1, (Option.some Jvm.ClassFile.FieldType.boolean))
theorem lV_TrustDeskModel_230 : mj_lV "TrustDeskModel" 230 kY_TrustDeskModel_isWell 0 := ⟨⟨(mj_in1 (List.mem_of_getElem? (i := 1666) (by decide +kernel)) rfl), (mj_in1 (List.mem_of_getElem? (i := 10) (by decide +kernel)) rfl), (mj_in1 (List.mem_of_getElem? (i := 1669) (by decide +kernel)) rfl), by decide, rfl, by decide⟩, (mj_in1 (List.mem_of_getElem? (i := 1668) (by decide +kernel)) rfl), (mj_in (List.mem_append_left _ (List.mem_of_getElem? (i := 83) (by decide +kernel))) rfl)⟩
theorem d_TrustDeskModel_isWell_0 : decode kY_TrustDeskModel_isWell.2.1 0 = .ok (.aload_n 0, 1) := by decide +kernel
theorem d_TrustDeskModel_isWell_1 : decode kY_TrustDeskModel_isWell.2.1 1 = .ok (.getfield 224, 3) := by decide +kernel
theorem f_TrustDeskModel_224_13 : mj_fl "TrustDeskModel" 224 13 19 := ⟨kR_TrustDeskModel, kF_TrustDeskModel, 72, "TrustDeskModel", rfl, kg_13, by decide, (mj_in1 (List.mem_of_getElem? (i := 1409) (by decide +kernel)) rfl), Or.inl rfl⟩
theorem d_TrustDeskModel_isWell_4 : decode kY_TrustDeskModel_isWell.2.1 4 = .ok (.ifCond .ne 7, 3) := by decide +kernel
theorem d_TrustDeskModel_isWell_7 : decode kY_TrustDeskModel_isWell.2.1 7 = .ok (.iconst 1, 1) := by decide +kernel
theorem d_TrustDeskModel_isWell_8 : decode kY_TrustDeskModel_isWell.2.1 8 = .ok (.goto 4, 3) := by decide +kernel
theorem d_TrustDeskModel_isWell_12 : decode kY_TrustDeskModel_isWell.2.1 12 = .ok (.ireturn, 1) := by decide +kernel
theorem c_TrustDeskModel_isWell_0 {g : mj_G} {l : Launch} {d nx : Nat} {M : mj_M} (h_99 : M 99 = some (.inr (13, [.int 0, .int 0, .int 0, .ref 100, .ref 101, .ref 102, .ref 103, .ref 104, .ref 105, .ref 106, .ref 107, .ref 108, .ref 109, .ref 110, .int 0, .int 0, .int 0, .int 0, .int 0, .int 0, .int 0, .int (-1), .int 0, .int 1, .int 0, .ref 111, .ref 112, .int 0, .ref 113, .ref 114, .ref 115, .int 0, .int 0, .ref 116, .ref 117, .ref 118, .ref 119, .ref 120, .ref 121, .ref 122, .ref 123, .ref 124, .ref 125, .ref 126, .ref 127, .ref 128, .ref 129, .ref 130, .ref 131, .int 0, .ref 132, .int 0, .ref 133, .int 0, .ref 134, .ref 135, .ref 136, .ref 137, .ref 138, .ref 139, .ref 140, .ref 141, .ref 142, .ref 143, .ref 144, .ref 145, .ref 146, .int 0, .long 0, .int 0, .int 0, .ref 147]))) : mj_Met g l kY_TrustDeskModel_isWell d [.ref 99] M nx 0 0 (mj_E1 (some (.int 1)) M nx) := by
  refine mj_enter (by decide) (Nat.le_of_ble_eq_true rfl) ?_
  refine mv_aload_n d_TrustDeskModel_isWell_0 rfl rfl ?_
  refine mv_get d_TrustDeskModel_isWell_1 f_TrustDeskModel_224_13 h_99 rfl ?_
  refine mv_if_ne_f (tgt := 11) d_TrustDeskModel_isWell_4 (by decide) (by decide) ?_
  refine mv_iconst (v := 1) d_TrustDeskModel_isWell_7 (by decide) ?_
  refine mv_goto (tgt := 12) d_TrustDeskModel_isWell_8 (by decide) ?_
  exact mv_iret d_TrustDeskModel_isWell_12 rfl (by first | rfl | decide) ⟨rfl, rfl, rfl⟩
theorem d_TrustDeskModel_act_37 : decode kY_TrustDeskModel_act.2.1 37 = .ok (.ifCond .eq 17, 3) := by decide +kernel
theorem d_TrustDeskModel_act_40 : decode kY_TrustDeskModel_act.2.1 40 = .ok (.aload_n 0, 1) := by decide +kernel
theorem d_TrustDeskModel_act_41 : decode kY_TrustDeskModel_act.2.1 41 = .ok (.getfield 198, 3) := by decide +kernel
theorem f_TrustDeskModel_198_13 : mj_fl "TrustDeskModel" 198 13 17 := ⟨kR_TrustDeskModel, kF_TrustDeskModel, 72, "TrustDeskModel", rfl, kg_13, by decide, (mj_in1 (List.mem_of_getElem? (i := 1407) (by decide +kernel)) rfl), Or.inl rfl⟩
theorem d_TrustDeskModel_act_44 : decode kY_TrustDeskModel_act.2.1 44 = .ok (.ifCond .eq 10, 3) := by decide +kernel
theorem d_TrustDeskModel_act_54 : decode kY_TrustDeskModel_act.2.1 54 = .ok (.aload_n 0, 1) := by decide +kernel
theorem d_TrustDeskModel_act_55 : decode kY_TrustDeskModel_act.2.1 55 = .ok (.aload_n 0, 1) := by decide +kernel
theorem d_TrustDeskModel_act_56 : decode kY_TrustDeskModel_act.2.1 56 = .ok (.getfield 378, 3) := by decide +kernel
theorem d_TrustDeskModel_act_59 : decode kY_TrustDeskModel_act.2.1 59 = .ok (.invokevirtual 388, 3) := by decide +kernel
abbrev kY_TrustDeskModel_stops : mj_Y := (⟨"TrustDeskModel", "stops", "(I)I"⟩, prog_14_method_42_code, 5, (Option.some Jvm.ClassFile.FieldType.int))
theorem lV_TrustDeskModel_388 : mj_lV "TrustDeskModel" 388 kY_TrustDeskModel_stops 1 := ⟨⟨(mj_in1 (List.mem_of_getElem? (i := 1776) (by decide +kernel)) rfl), (mj_in1 (List.mem_of_getElem? (i := 10) (by decide +kernel)) rfl), (mj_in1 (List.mem_of_getElem? (i := 1779) (by decide +kernel)) rfl), by decide, rfl, by decide⟩, (mj_in1 (List.mem_of_getElem? (i := 1778) (by decide +kernel)) rfl), (mj_in (List.mem_append_left _ (List.mem_of_getElem? (i := 103) (by decide +kernel))) rfl)⟩
theorem d_TrustDeskModel_stops_0 : decode kY_TrustDeskModel_stops.2.1 0 = .ok (.aload_n 0, 1) := by decide +kernel
theorem d_TrustDeskModel_stops_1 : decode kY_TrustDeskModel_stops.2.1 1 = .ok (.iconst 0, 1) := by decide +kernel
theorem d_TrustDeskModel_stops_2 : decode kY_TrustDeskModel_stops.2.1 2 = .ok (.putfield 189, 3) := by decide +kernel
theorem d_TrustDeskModel_stops_5 : decode kY_TrustDeskModel_stops.2.1 5 = .ok (.aload_n 0, 1) := by decide +kernel
theorem d_TrustDeskModel_stops_6 : decode kY_TrustDeskModel_stops.2.1 6 = .ok (.aload_n 0, 1) := by decide +kernel
theorem d_TrustDeskModel_stops_7 : decode kY_TrustDeskModel_stops.2.1 7 = .ok (.invokevirtual 230, 3) := by decide +kernel
theorem d_TrustDeskModel_stops_10 : decode kY_TrustDeskModel_stops.2.1 10 = .ok (.ifCond .eq 7, 3) := by decide +kernel
theorem d_TrustDeskModel_stops_13 : decode kY_TrustDeskModel_stops.2.1 13 = .ok (.iconst (-1), 1) := by decide +kernel
theorem d_TrustDeskModel_stops_14 : decode kY_TrustDeskModel_stops.2.1 14 = .ok (.goto 7, 3) := by decide +kernel
theorem d_TrustDeskModel_stops_21 : decode kY_TrustDeskModel_stops.2.1 21 = .ok (.putfield 48, 3) := by decide +kernel
theorem d_TrustDeskModel_stops_24 : decode kY_TrustDeskModel_stops.2.1 24 = .ok (.aload_n 0, 1) := by decide +kernel
theorem d_TrustDeskModel_stops_25 : decode kY_TrustDeskModel_stops.2.1 25 = .ok (.invokevirtual 230, 3) := by decide +kernel
theorem d_TrustDeskModel_stops_28 : decode kY_TrustDeskModel_stops.2.1 28 = .ok (.ifCond .ne 10, 3) := by decide +kernel
theorem d_TrustDeskModel_stops_38 : decode kY_TrustDeskModel_stops.2.1 38 = .ok (.aload_n 0, 1) := by decide +kernel
theorem d_TrustDeskModel_stops_39 : decode kY_TrustDeskModel_stops.2.1 39 = .ok (.getfield 20, 3) := by decide +kernel
theorem d_TrustDeskModel_stops_42 : decode kY_TrustDeskModel_stops.2.1 42 = .ok (.iload_n 1, 1) := by decide +kernel
theorem d_TrustDeskModel_stops_43 : decode kY_TrustDeskModel_stops.2.1 43 = .ok (.aload_n 0, 1) := by decide +kernel
theorem d_TrustDeskModel_stops_44 : decode kY_TrustDeskModel_stops.2.1 44 = .ok (.getfield 20, 3) := by decide +kernel
theorem d_TrustDeskModel_stops_47 : decode kY_TrustDeskModel_stops.2.1 47 = .ok (.bipush 44, 2) := by decide +kernel
theorem d_TrustDeskModel_stops_49 : decode kY_TrustDeskModel_stops.2.1 49 = .ok (.iaload, 1) := by decide +kernel
theorem d_TrustDeskModel_stops_50 : decode kY_TrustDeskModel_stops.2.1 50 = .ok (.iastore, 1) := by decide +kernel
theorem d_TrustDeskModel_stops_51 : decode kY_TrustDeskModel_stops.2.1 51 = .ok (.aload_n 0, 1) := by decide +kernel
theorem d_TrustDeskModel_stops_52 : decode kY_TrustDeskModel_stops.2.1 52 = .ok (.getfield 23, 3) := by decide +kernel
theorem d_TrustDeskModel_stops_55 : decode kY_TrustDeskModel_stops.2.1 55 = .ok (.iload_n 1, 1) := by decide +kernel
theorem d_TrustDeskModel_stops_56 : decode kY_TrustDeskModel_stops.2.1 56 = .ok (.aload_n 0, 1) := by decide +kernel
theorem d_TrustDeskModel_stops_57 : decode kY_TrustDeskModel_stops.2.1 57 = .ok (.getfield 23, 3) := by decide +kernel
theorem d_TrustDeskModel_stops_60 : decode kY_TrustDeskModel_stops.2.1 60 = .ok (.bipush 44, 2) := by decide +kernel
theorem d_TrustDeskModel_stops_62 : decode kY_TrustDeskModel_stops.2.1 62 = .ok (.iaload, 1) := by decide +kernel
theorem d_TrustDeskModel_stops_63 : decode kY_TrustDeskModel_stops.2.1 63 = .ok (.iastore, 1) := by decide +kernel
theorem d_TrustDeskModel_stops_64 : decode kY_TrustDeskModel_stops.2.1 64 = .ok (.iconst 0, 1) := by decide +kernel
theorem d_TrustDeskModel_stops_65 : decode kY_TrustDeskModel_stops.2.1 65 = .ok (.istore_n 2, 1) := by decide +kernel
theorem d_TrustDeskModel_stops_66 : decode kY_TrustDeskModel_stops.2.1 66 = .ok (.iload_n 2, 1) := by decide +kernel
theorem d_TrustDeskModel_stops_67 : decode kY_TrustDeskModel_stops.2.1 67 = .ok (.aload_n 0, 1) := by decide +kernel
theorem d_TrustDeskModel_stops_68 : decode kY_TrustDeskModel_stops.2.1 68 = .ok (.getfield 20, 3) := by decide +kernel
theorem d_TrustDeskModel_stops_71 : decode kY_TrustDeskModel_stops.2.1 71 = .ok (.bipush 44, 2) := by decide +kernel
theorem d_TrustDeskModel_stops_73 : decode kY_TrustDeskModel_stops.2.1 73 = .ok (.iaload, 1) := by decide +kernel
theorem d_TrustDeskModel_stops_74 : decode kY_TrustDeskModel_stops.2.1 74 = .ok (.if_icmp .ge 31, 3) := by decide +kernel
theorem d_TrustDeskModel_stops_105 : decode kY_TrustDeskModel_stops.2.1 105 = .ok (.iconst 0, 1) := by decide +kernel
theorem d_TrustDeskModel_stops_106 : decode kY_TrustDeskModel_stops.2.1 106 = .ok (.istore_n 2, 1) := by decide +kernel
theorem d_TrustDeskModel_stops_107 : decode kY_TrustDeskModel_stops.2.1 107 = .ok (.iload_n 2, 1) := by decide +kernel
theorem d_TrustDeskModel_stops_108 : decode kY_TrustDeskModel_stops.2.1 108 = .ok (.aload_n 0, 1) := by decide +kernel
theorem d_TrustDeskModel_stops_109 : decode kY_TrustDeskModel_stops.2.1 109 = .ok (.getfield 23, 3) := by decide +kernel
theorem d_TrustDeskModel_stops_112 : decode kY_TrustDeskModel_stops.2.1 112 = .ok (.bipush 44, 2) := by decide +kernel
theorem d_TrustDeskModel_stops_114 : decode kY_TrustDeskModel_stops.2.1 114 = .ok (.iaload, 1) := by decide +kernel
theorem d_TrustDeskModel_stops_115 : decode kY_TrustDeskModel_stops.2.1 115 = .ok (.if_icmp .ge 101, 3) := by decide +kernel
theorem d_TrustDeskModel_stops_216 : decode kY_TrustDeskModel_stops.2.1 216 = .ok (.iconst 0, 1) := by decide +kernel
theorem d_TrustDeskModel_stops_217 : decode kY_TrustDeskModel_stops.2.1 217 = .ok (.ireturn, 1) := by decide +kernel
theorem c_TrustDeskModel_stops_0 {g : mj_G} {l : Launch} {d nx : Nat} {M : mj_M} (h_99 : M 99 = some (.inr (13, [.int 0, .int 0, .int 0, .ref 100, .ref 101, .ref 102, .ref 103, .ref 104, .ref 105, .ref 106, .ref 107, .ref 108, .ref 109, .ref 110, .int 0, .int 0, .int 0, .int 0, .int 0, .int 0, .int 0, .int (-1), .int 0, .int 1, .int 0, .ref 111, .ref 112, .int 0, .ref 113, .ref 114, .ref 115, .int 0, .int 0, .ref 116, .ref 117, .ref 118, .ref 119, .ref 120, .ref 121, .ref 122, .ref 123, .ref 124, .ref 125, .ref 126, .ref 127, .ref 128, .ref 129, .ref 130, .ref 131, .int 0, .ref 132, .int 0, .ref 133, .int 0, .ref 134, .ref 135, .ref 136, .ref 137, .ref 138, .ref 139, .ref 140, .ref 141, .ref 142, .ref 143, .ref 144, .ref 145, .ref 146, .int 0, .long 0, .int 0, .int 0, .ref 147]))) (h_102 : M 102 = some (.inl (0, 45, .inl (upd (fun _ => 0) 44 0)))) (h_103 : M 103 = some (.inl (0, 45, .inl (upd (fun _ => 0) 44 0)))) : mj_Met g l kY_TrustDeskModel_stops (d + 1) [.ref 99, .int 0] M nx 0 0 (mj_E1 (some (.int 0)) (mj_up (mj_up (mj_up (mj_up M 99 (.inr (13, [.int 0, .int 0, .int 0, .ref 100, .ref 101, .ref 102, .ref 103, .ref 104, .ref 105, .ref 106, .ref 107, .ref 108, .ref 109, .ref 110, .int 0, .int 0, .int 0, .int 0, .int 0, .int 0, .int 0, .int (-1), .int 0, .int 1, .int 0, .ref 111, .ref 112, .int 0, .ref 113, .ref 114, .ref 115, .int 0, .int 0, .ref 116, .ref 117, .ref 118, .ref 119, .ref 120, .ref 121, .ref 122, .ref 123, .ref 124, .ref 125, .ref 126, .ref 127, .ref 128, .ref 129, .ref 130, .ref 131, .int 0, .ref 132, .int 0, .ref 133, .int 0, .ref 134, .ref 135, .ref 136, .ref 137, .ref 138, .ref 139, .ref 140, .ref 141, .ref 142, .ref 143, .ref 144, .ref 145, .ref 146, .int 0, .long 0, .int 0, .int 0, .ref 147]))) 99 (.inr (13, [.int 0, .int 0, .int 0, .ref 100, .ref 101, .ref 102, .ref 103, .ref 104, .ref 105, .ref 106, .ref 107, .ref 108, .ref 109, .ref 110, .int 0, .int 0, .int 0, .int 0, .int 0, .int 0, .int 0, .int (-1), .int 0, .int 1, .int 0, .ref 111, .ref 112, .int 0, .ref 113, .ref 114, .ref 115, .int 0, .int 0, .ref 116, .ref 117, .ref 118, .ref 119, .ref 120, .ref 121, .ref 122, .ref 123, .ref 124, .ref 125, .ref 126, .ref 127, .ref 128, .ref 129, .ref 130, .ref 131, .int 0, .ref 132, .int 0, .ref 133, .int 0, .ref 134, .ref 135, .ref 136, .ref 137, .ref 138, .ref 139, .ref 140, .ref 141, .ref 142, .ref 143, .ref 144, .ref 145, .ref 146, .int 0, .long 0, .int 0, .int 0, .ref 147]))) 102 (.inl (0, 45, .inl (upd (upd (fun _ => 0) 44 0) 0 0)))) 103 (.inl (0, 45, .inl (upd (upd (fun _ => 0) 44 0) 0 0)))) nx) := by
  refine mj_enter (by decide) (Nat.le_of_ble_eq_true rfl) ?_
  refine mv_aload_n d_TrustDeskModel_stops_0 rfl rfl ?_
  refine mv_iconst (v := 0) d_TrustDeskModel_stops_1 (by decide) ?_
  refine mv_put (fs' := [.int 0, .int 0, .int 0, .ref 100, .ref 101, .ref 102, .ref 103, .ref 104, .ref 105, .ref 106, .ref 107, .ref 108, .ref 109, .ref 110, .int 0, .int 0, .int 0, .int 0, .int 0, .int 0, .int 0, .int (-1), .int 0, .int 1, .int 0, .ref 111, .ref 112, .int 0, .ref 113, .ref 114, .ref 115, .int 0, .int 0, .ref 116, .ref 117, .ref 118, .ref 119, .ref 120, .ref 121, .ref 122, .ref 123, .ref 124, .ref 125, .ref 126, .ref 127, .ref 128, .ref 129, .ref 130, .ref 131, .int 0, .ref 132, .int 0, .ref 133, .int 0, .ref 134, .ref 135, .ref 136, .ref 137, .ref 138, .ref 139, .ref 140, .ref 141, .ref 142, .ref 143, .ref 144, .ref 145, .ref 146, .int 0, .long 0, .int 0, .int 0, .ref 147]) d_TrustDeskModel_stops_2 p_TrustDeskModel_189_13 h_99 (Nat.le_of_ble_eq_true rfl) rfl rfl rfl ?_
  refine mv_aload_n d_TrustDeskModel_stops_5 rfl rfl ?_
  refine mv_aload_n d_TrustDeskModel_stops_6 rfl rfl ?_
  refine mv_callV_s (kc' := 0) (ks' := 0) [] [.ref 99, .ref 99] d_TrustDeskModel_stops_7 lV_TrustDeskModel_230 (mj_up_self _ _ _) rfl (c_TrustDeskModel_isWell_0 (d := d) (h_99 := (mj_up_self _ _ _))) rfl (Nat.le_of_ble_eq_true rfl) (Nat.le_of_ble_eq_true rfl) (Nat.le_of_ble_eq_true rfl) rfl ?_
  refine mv_if_eq_f (tgt := 17) d_TrustDeskModel_stops_10 (by decide) (by decide) ?_
  refine mv_iconst (v := (-1)) d_TrustDeskModel_stops_13 (by decide) ?_
  refine mv_goto (tgt := 21) d_TrustDeskModel_stops_14 (by decide) ?_
  refine mv_put (fs' := [.int 0, .int 0, .int 0, .ref 100, .ref 101, .ref 102, .ref 103, .ref 104, .ref 105, .ref 106, .ref 107, .ref 108, .ref 109, .ref 110, .int 0, .int 0, .int 0, .int 0, .int 0, .int 0, .int 0, .int (-1), .int 0, .int 1, .int 0, .ref 111, .ref 112, .int 0, .ref 113, .ref 114, .ref 115, .int 0, .int 0, .ref 116, .ref 117, .ref 118, .ref 119, .ref 120, .ref 121, .ref 122, .ref 123, .ref 124, .ref 125, .ref 126, .ref 127, .ref 128, .ref 129, .ref 130, .ref 131, .int 0, .ref 132, .int 0, .ref 133, .int 0, .ref 134, .ref 135, .ref 136, .ref 137, .ref 138, .ref 139, .ref 140, .ref 141, .ref 142, .ref 143, .ref 144, .ref 145, .ref 146, .int 0, .long 0, .int 0, .int 0, .ref 147]) d_TrustDeskModel_stops_21 p_TrustDeskModel_48_13 (mj_up_self _ _ _) (Nat.le_of_ble_eq_true rfl) rfl rfl rfl ?_
  refine mv_aload_n d_TrustDeskModel_stops_24 rfl rfl ?_
  refine mv_callV_s (kc' := 0) (ks' := 0) [] [.ref 99] d_TrustDeskModel_stops_25 lV_TrustDeskModel_230 (mj_up_self _ _ _) rfl (c_TrustDeskModel_isWell_0 (d := d) (h_99 := (mj_up_self _ _ _))) rfl (Nat.le_of_ble_eq_true rfl) (Nat.le_of_ble_eq_true rfl) (Nat.le_of_ble_eq_true rfl) rfl ?_
  refine mv_if_ne_t (tgt := 38) d_TrustDeskModel_stops_28 (by decide) (by decide) ?_
  refine mv_aload_n d_TrustDeskModel_stops_38 rfl rfl ?_
  refine mv_get d_TrustDeskModel_stops_39 f_TrustDeskModel_20_13 (mj_up_self _ _ _) rfl ?_
  refine mv_iload_n d_TrustDeskModel_stops_42 rfl rfl ?_
  refine mv_aload_n d_TrustDeskModel_stops_43 rfl rfl ?_
  refine mv_get d_TrustDeskModel_stops_44 f_TrustDeskModel_20_13 (mj_up_self _ _ _) rfl ?_
  refine mv_bipush (v := 44) d_TrustDeskModel_stops_47 (by decide) ?_
  refine mv_iald (v := 0) d_TrustDeskModel_stops_49 ((mj_up_ne _ _ (Nat.ne_of_beq_eq_false rfl)).trans ((mj_up_ne _ _ (Nat.ne_of_beq_eq_false rfl)).trans h_102)) (by unfold vp_in; decide) rfl ?_
  refine mv_iast (f' := (upd (upd (fun _ => 0) 44 0) 0 0)) d_TrustDeskModel_stops_50 ((mj_up_ne _ _ (Nat.ne_of_beq_eq_false rfl)).trans ((mj_up_ne _ _ (Nat.ne_of_beq_eq_false rfl)).trans h_102)) (by unfold vp_in; decide) rfl ?_
  refine mv_aload_n d_TrustDeskModel_stops_51 rfl rfl ?_
  refine mv_get d_TrustDeskModel_stops_52 f_TrustDeskModel_23_13 ((mj_up_ne _ _ (Nat.ne_of_beq_eq_false rfl)).trans (mj_up_self _ _ _)) rfl ?_
  refine mv_iload_n d_TrustDeskModel_stops_55 rfl rfl ?_
  refine mv_aload_n d_TrustDeskModel_stops_56 rfl rfl ?_
  refine mv_get d_TrustDeskModel_stops_57 f_TrustDeskModel_23_13 ((mj_up_ne _ _ (Nat.ne_of_beq_eq_false rfl)).trans (mj_up_self _ _ _)) rfl ?_
  refine mv_bipush (v := 44) d_TrustDeskModel_stops_60 (by decide) ?_
  refine mv_iald (v := 0) d_TrustDeskModel_stops_62 ((mj_up_ne _ _ (Nat.ne_of_beq_eq_false rfl)).trans ((mj_up_ne _ _ (Nat.ne_of_beq_eq_false rfl)).trans ((mj_up_ne _ _ (Nat.ne_of_beq_eq_false rfl)).trans h_103))) (by unfold vp_in; decide) rfl ?_
  refine mv_iast (f' := (upd (upd (fun _ => 0) 44 0) 0 0)) d_TrustDeskModel_stops_63 ((mj_up_ne _ _ (Nat.ne_of_beq_eq_false rfl)).trans ((mj_up_ne _ _ (Nat.ne_of_beq_eq_false rfl)).trans ((mj_up_ne _ _ (Nat.ne_of_beq_eq_false rfl)).trans h_103))) (by unfold vp_in; decide) rfl ?_
  refine mv_iconst (v := 0) d_TrustDeskModel_stops_64 (by decide) ?_
  refine mv_istore_n (lv' := [(2, .int 0), (0, .ref 99), (1, .int 0)]) d_TrustDeskModel_stops_65 rfl (by decide) rfl ?_
  refine mv_iload_n d_TrustDeskModel_stops_66 rfl rfl ?_
  refine mv_aload_n d_TrustDeskModel_stops_67 rfl rfl ?_
  refine mv_get d_TrustDeskModel_stops_68 f_TrustDeskModel_20_13 ((mj_up_ne _ _ (Nat.ne_of_beq_eq_false rfl)).trans ((mj_up_ne _ _ (Nat.ne_of_beq_eq_false rfl)).trans (mj_up_self _ _ _))) rfl ?_
  refine mv_bipush (v := 44) d_TrustDeskModel_stops_71 (by decide) ?_
  refine mv_iald (v := 0) d_TrustDeskModel_stops_73 ((mj_up_ne _ _ (Nat.ne_of_beq_eq_false rfl)).trans (mj_up_self _ _ _)) (by unfold vp_in; decide) rfl ?_
  refine mv_icmp_ge_t (tgt := 105) d_TrustDeskModel_stops_74 (by decide) (by decide) ?_
  refine mv_iconst (v := 0) d_TrustDeskModel_stops_105 (by decide) ?_
  refine mv_istore_n (lv' := [(2, .int 0), (0, .ref 99), (1, .int 0)]) d_TrustDeskModel_stops_106 rfl (by decide) rfl ?_
  refine mv_iload_n d_TrustDeskModel_stops_107 rfl rfl ?_
  refine mv_aload_n d_TrustDeskModel_stops_108 rfl rfl ?_
  refine mv_get d_TrustDeskModel_stops_109 f_TrustDeskModel_23_13 ((mj_up_ne _ _ (Nat.ne_of_beq_eq_false rfl)).trans ((mj_up_ne _ _ (Nat.ne_of_beq_eq_false rfl)).trans (mj_up_self _ _ _))) rfl ?_
  refine mv_bipush (v := 44) d_TrustDeskModel_stops_112 (by decide) ?_
  refine mv_iald (v := 0) d_TrustDeskModel_stops_114 (mj_up_self _ _ _) (by unfold vp_in; decide) rfl ?_
  refine mv_icmp_ge_t (tgt := 216) d_TrustDeskModel_stops_115 (by decide) (by decide) ?_
  refine mv_iconst (v := 0) d_TrustDeskModel_stops_216 (by decide) ?_
  exact mv_iret d_TrustDeskModel_stops_217 rfl (by first | rfl | decide) ⟨rfl, rfl, rfl⟩
theorem d_TrustDeskModel_act_62 : decode kY_TrustDeskModel_act.2.1 62 = .ok (.istore_n 2, 1) := by decide +kernel
theorem d_TrustDeskModel_act_63 : decode kY_TrustDeskModel_act.2.1 63 = .ok (.iload_n 2, 1) := by decide +kernel
theorem d_TrustDeskModel_act_64 : decode kY_TrustDeskModel_act.2.1 64 = .ok (.ifCond .ge 5, 3) := by decide +kernel
theorem d_TrustDeskModel_act_69 : decode kY_TrustDeskModel_act.2.1 69 = .ok (.aload_n 0, 1) := by decide +kernel
theorem d_TrustDeskModel_act_70 : decode kY_TrustDeskModel_act.2.1 70 = .ok (.getfield 57, 3) := by decide +kernel
theorem f_TrustDeskModel_57_13 : mj_fl "TrustDeskModel" 57 13 28 := ⟨kR_TrustDeskModel, kF_TrustDeskModel, 72, "TrustDeskModel", rfl, kg_13, by decide, (mj_in1 (List.mem_of_getElem? (i := 1418) (by decide +kernel)) rfl), Or.inl rfl⟩
theorem d_TrustDeskModel_act_73 : decode kY_TrustDeskModel_act.2.1 73 = .ok (.aload_n 0, 1) := by decide +kernel
theorem d_TrustDeskModel_act_74 : decode kY_TrustDeskModel_act.2.1 74 = .ok (.getfield 378, 3) := by decide +kernel
theorem d_TrustDeskModel_act_77 : decode kY_TrustDeskModel_act.2.1 77 = .ok (.iload_n 1, 1) := by decide +kernel
theorem d_TrustDeskModel_act_78 : decode kY_TrustDeskModel_act.2.1 78 = .ok (.iastore, 1) := by decide +kernel
theorem d_TrustDeskModel_act_79 : decode kY_TrustDeskModel_act.2.1 79 = .ok (.aload_n 0, 1) := by decide +kernel
theorem d_TrustDeskModel_act_80 : decode kY_TrustDeskModel_act.2.1 80 = .ok (.dup, 1) := by decide +kernel
theorem d_TrustDeskModel_act_81 : decode kY_TrustDeskModel_act.2.1 81 = .ok (.getfield 378, 3) := by decide +kernel
theorem d_TrustDeskModel_act_84 : decode kY_TrustDeskModel_act.2.1 84 = .ok (.iconst 1, 1) := by decide +kernel
theorem d_TrustDeskModel_act_85 : decode kY_TrustDeskModel_act.2.1 85 = .ok (.iadd, 1) := by decide +kernel
theorem d_TrustDeskModel_act_86 : decode kY_TrustDeskModel_act.2.1 86 = .ok (.putfield 378, 3) := by decide +kernel
theorem p_TrustDeskModel_378_13 : mj_fp "TrustDeskModel" 378 13 27 (kt_TrustDeskModel 27) false := ⟨kR_TrustDeskModel, kF_TrustDeskModel, 72, "TrustDeskModel", kt_TrustDeskModel, rfl, kg_13, by decide, (mj_in1 (List.mem_of_getElem? (i := 1417) (by decide +kernel)) rfl), Or.inl rfl, kto_TrustDeskModel, kn_TrustDeskModel, rfl, rfl, fun h => by cases h⟩
theorem d_TrustDeskModel_act_89 : decode kY_TrustDeskModel_act.2.1 89 = .ok (.aload_n 0, 1) := by decide +kernel
theorem d_TrustDeskModel_act_90 : decode kY_TrustDeskModel_act.2.1 90 = .ok (.getfield 23, 3) := by decide +kernel
theorem d_TrustDeskModel_act_93 : decode kY_TrustDeskModel_act.2.1 93 = .ok (.aload_n 0, 1) := by decide +kernel
theorem d_TrustDeskModel_act_94 : decode kY_TrustDeskModel_act.2.1 94 = .ok (.getfield 378, 3) := by decide +kernel
theorem d_TrustDeskModel_act_97 : decode kY_TrustDeskModel_act.2.1 97 = .ok (.iconst 1, 1) := by decide +kernel
theorem d_TrustDeskModel_act_98 : decode kY_TrustDeskModel_act.2.1 98 = .ok (.isub, 1) := by decide +kernel
theorem d_TrustDeskModel_act_99 : decode kY_TrustDeskModel_act.2.1 99 = .ok (.iaload, 1) := by decide +kernel
theorem d_TrustDeskModel_act_100 : decode kY_TrustDeskModel_act.2.1 100 = .ok (.ireturn, 1) := by decide +kernel
theorem d_TrustDeskModel_act_26 : decode kY_TrustDeskModel_act.2.1 26 = .ok (.iconst (-1), 1) := by decide +kernel
theorem d_TrustDeskModel_act_27 : decode kY_TrustDeskModel_act.2.1 27 = .ok (.ireturn, 1) := by decide +kernel
theorem c_TrustDeskModel_act_0 {g : mj_G} {l : Launch} {d nx : Nat} {M : mj_M} {x1 : Int32} (h_99 : M 99 = some (.inr (13, [.int 0, .int 0, .int 0, .ref 100, .ref 101, .ref 102, .ref 103, .ref 104, .ref 105, .ref 106, .ref 107, .ref 108, .ref 109, .ref 110, .int 0, .int 0, .int 0, .int 0, .int 0, .int 0, .int 0, .int (-1), .int 0, .int 0, .int 0, .ref 111, .ref 112, .int 0, .ref 113, .ref 114, .ref 115, .int 0, .int 0, .ref 116, .ref 117, .ref 118, .ref 119, .ref 120, .ref 121, .ref 122, .ref 123, .ref 124, .ref 125, .ref 126, .ref 127, .ref 128, .ref 129, .ref 130, .ref 131, .int 0, .ref 132, .int 0, .ref 133, .int 0, .ref 134, .ref 135, .ref 136, .ref 137, .ref 138, .ref 139, .ref 140, .ref 141, .ref 142, .ref 143, .ref 144, .ref 145, .ref 146, .int 0, .long 0, .int 0, .int 0, .ref 147]))) (h_102 : M 102 = some (.inl (0, 45, .inl (fun _ => 0)))) (h_103 : M 103 = some (.inl (0, 45, .inl (fun _ => 0)))) (h_113 : M 113 = some (.inl (0, 20, .inl (fun _ => 0)))) : mj_Met g l kY_TrustDeskModel_act (d + 2) [.ref 99, .int x1] M nx 0 0 (mj_KP (some (.int (e_act x1))) M 0 0) := by
  refine mj_enter (by decide) (Nat.le_of_ble_eq_true rfl) ?_
  refine mv_aload_n d_TrustDeskModel_act_0 rfl rfl ?_
  refine mv_iconst (v := 0) d_TrustDeskModel_act_1 (by decide) ?_
  refine mv_put (fs' := [.int 0, .int 0, .int 0, .ref 100, .ref 101, .ref 102, .ref 103, .ref 104, .ref 105, .ref 106, .ref 107, .ref 108, .ref 109, .ref 110, .int 0, .int 0, .int 0, .int 0, .int 0, .int 0, .int 0, .int (-1), .int 0, .int 0, .int 0, .ref 111, .ref 112, .int 0, .ref 113, .ref 114, .ref 115, .int 0, .int 0, .ref 116, .ref 117, .ref 118, .ref 119, .ref 120, .ref 121, .ref 122, .ref 123, .ref 124, .ref 125, .ref 126, .ref 127, .ref 128, .ref 129, .ref 130, .ref 131, .int 0, .ref 132, .int 0, .ref 133, .int 0, .ref 134, .ref 135, .ref 136, .ref 137, .ref 138, .ref 139, .ref 140, .ref 141, .ref 142, .ref 143, .ref 144, .ref 145, .ref 146, .int 0, .long 0, .int 0, .int 0, .ref 147]) d_TrustDeskModel_act_2 p_TrustDeskModel_1_13 h_99 (Nat.le_of_ble_eq_true rfl) rfl rfl rfl ?_
  refine mv_iload_n d_TrustDeskModel_act_5 rfl rfl ?_
  refine mv_i2l (v := x1.toInt64) d_TrustDeskModel_act_6 rfl ?_
  refine mv_lconst (v := 0) d_TrustDeskModel_act_7 (by decide) ?_
  refine mv_ldc2 d_TrustDeskModel_act_8 k_TrustDeskModel_376 ?_
  refine mv_callS_b (kc' := 0) (ks' := 0) [.long x1.toInt64, .long 0, .long 36000] [.long 36000, .long 0, .long x1.toInt64] d_TrustDeskModel_act_11 lS_TrustDeskModel_169 (c_TrustDeskModel_within_2 (d := (d + 1)) (x0 := x1.toInt64)) rfl (Nat.le_of_ble_eq_true rfl) (Nat.le_of_ble_eq_true rfl) (Nat.le_of_ble_eq_true rfl) rfl (fun b1 => ?_) (fun b1 => ?_)
  · rw [mz_wide] at b1
    refine mv_if_eq_f (tgt := 26) d_TrustDeskModel_act_14 (by decide) (by decide) ?_
    refine mv_aload_n d_TrustDeskModel_act_17 rfl rfl ?_
    refine mv_get d_TrustDeskModel_act_18 f_TrustDeskModel_378_13 (mj_up_self _ _ _) rfl ?_
    refine mv_bipush (v := 20) d_TrustDeskModel_act_21 (by decide) ?_
    refine mv_icmp_ne_t (tgt := 28) d_TrustDeskModel_act_23 (by decide) (by decide) ?_
    refine mv_aload_n d_TrustDeskModel_act_28 rfl rfl ?_
    refine mv_iconst (v := 1) d_TrustDeskModel_act_29 (by decide) ?_
    refine mv_callV_n (kc' := 0) (ks' := 0) [.int 1] [.int 1, .ref 99] d_TrustDeskModel_act_30 lV_TrustDeskModel_381 (mj_up_self _ _ _) rfl (c_TrustDeskModel_starts_0 (d := d) (h_99 := (mj_up_self _ _ _)) (h_102 := ((mj_up_ne _ _ (Nat.ne_of_beq_eq_false rfl)).trans h_102)) (h_103 := ((mj_up_ne _ _ (Nat.ne_of_beq_eq_false rfl)).trans h_103))) rfl (Nat.le_of_ble_eq_true rfl) (Nat.le_of_ble_eq_true rfl) (Nat.le_of_ble_eq_true rfl) rfl ?_
    refine mv_aload_n d_TrustDeskModel_act_33 rfl rfl ?_
    refine mv_callV_s (kc' := 0) (ks' := 0) [] [.ref 99] d_TrustDeskModel_act_34 lV_TrustDeskModel_230 (mj_up_self _ _ _) rfl (c_TrustDeskModel_isWell_0 (d := (d + 1)) (h_99 := (mj_up_self _ _ _))) rfl (Nat.le_of_ble_eq_true rfl) (Nat.le_of_ble_eq_true rfl) (Nat.le_of_ble_eq_true rfl) rfl ?_
    refine mv_if_eq_f (tgt := 54) d_TrustDeskModel_act_37 (by decide) (by decide) ?_
    refine mv_aload_n d_TrustDeskModel_act_40 rfl rfl ?_
    refine mv_get d_TrustDeskModel_act_41 f_TrustDeskModel_198_13 (mj_up_self _ _ _) rfl ?_
    refine mv_if_eq_t (tgt := 54) d_TrustDeskModel_act_44 (by decide) (by decide) ?_
    refine mv_aload_n d_TrustDeskModel_act_54 rfl rfl ?_
    refine mv_aload_n d_TrustDeskModel_act_55 rfl rfl ?_
    refine mv_get d_TrustDeskModel_act_56 f_TrustDeskModel_378_13 (mj_up_self _ _ _) rfl ?_
    refine mv_callV_s (kc' := 0) (ks' := 0) [.int 0] [.int 0, .ref 99] d_TrustDeskModel_act_59 lV_TrustDeskModel_388 (mj_up_self _ _ _) rfl (c_TrustDeskModel_stops_0 (d := d) (h_99 := (mj_up_self _ _ _)) (h_102 := ((mj_up_ne _ _ (Nat.ne_of_beq_eq_false rfl)).trans ((mj_up_ne _ _ (Nat.ne_of_beq_eq_false rfl)).trans ((mj_up_ne _ _ (Nat.ne_of_beq_eq_false rfl)).trans (mj_up_self _ _ _))))) (h_103 := ((mj_up_ne _ _ (Nat.ne_of_beq_eq_false rfl)).trans ((mj_up_ne _ _ (Nat.ne_of_beq_eq_false rfl)).trans (mj_up_self _ _ _))))) rfl (Nat.le_of_ble_eq_true rfl) (Nat.le_of_ble_eq_true rfl) (Nat.le_of_ble_eq_true rfl) rfl ?_
    refine mv_istore_n (lv' := [(2, .int 0), (0, .ref 99), (1, .int x1)]) d_TrustDeskModel_act_62 rfl (by decide) rfl ?_
    refine mv_iload_n d_TrustDeskModel_act_63 rfl rfl ?_
    refine mv_if_ge_t (tgt := 69) d_TrustDeskModel_act_64 (by decide) (by decide) ?_
    refine mv_aload_n d_TrustDeskModel_act_69 rfl rfl ?_
    refine mv_get d_TrustDeskModel_act_70 f_TrustDeskModel_57_13 ((mj_up_ne _ _ (Nat.ne_of_beq_eq_false rfl)).trans ((mj_up_ne _ _ (Nat.ne_of_beq_eq_false rfl)).trans (mj_up_self _ _ _))) rfl ?_
    refine mv_aload_n d_TrustDeskModel_act_73 rfl rfl ?_
    refine mv_get d_TrustDeskModel_act_74 f_TrustDeskModel_378_13 ((mj_up_ne _ _ (Nat.ne_of_beq_eq_false rfl)).trans ((mj_up_ne _ _ (Nat.ne_of_beq_eq_false rfl)).trans (mj_up_self _ _ _))) rfl ?_
    refine mv_iload_n d_TrustDeskModel_act_77 rfl rfl ?_
    refine mv_iast (f' := (upd (fun _ => 0) 0 x1)) d_TrustDeskModel_act_78 ((mj_up_ne _ _ (Nat.ne_of_beq_eq_false rfl)).trans ((mj_up_ne _ _ (Nat.ne_of_beq_eq_false rfl)).trans ((mj_up_ne _ _ (Nat.ne_of_beq_eq_false rfl)).trans ((mj_up_ne _ _ (Nat.ne_of_beq_eq_false rfl)).trans ((mj_up_ne _ _ (Nat.ne_of_beq_eq_false rfl)).trans ((mj_up_ne _ _ (Nat.ne_of_beq_eq_false rfl)).trans ((mj_up_ne _ _ (Nat.ne_of_beq_eq_false rfl)).trans ((mj_up_ne _ _ (Nat.ne_of_beq_eq_false rfl)).trans ((mj_up_ne _ _ (Nat.ne_of_beq_eq_false rfl)).trans ((mj_up_ne _ _ (Nat.ne_of_beq_eq_false rfl)).trans ((mj_up_ne _ _ (Nat.ne_of_beq_eq_false rfl)).trans ((mj_up_ne _ _ (Nat.ne_of_beq_eq_false rfl)).trans ((mj_up_ne _ _ (Nat.ne_of_beq_eq_false rfl)).trans ((mj_up_ne _ _ (Nat.ne_of_beq_eq_false rfl)).trans h_113)))))))))))))) (by unfold vp_in; decide) rfl ?_
    refine mv_aload_n d_TrustDeskModel_act_79 rfl rfl ?_
    refine mv_dup d_TrustDeskModel_act_80 rfl ?_
    refine mv_get d_TrustDeskModel_act_81 f_TrustDeskModel_378_13 ((mj_up_ne _ _ (Nat.ne_of_beq_eq_false rfl)).trans ((mj_up_ne _ _ (Nat.ne_of_beq_eq_false rfl)).trans ((mj_up_ne _ _ (Nat.ne_of_beq_eq_false rfl)).trans (mj_up_self _ _ _)))) rfl ?_
    refine mv_iconst (v := 1) d_TrustDeskModel_act_84 (by decide) ?_
    refine mv_iaddv (v := 1) d_TrustDeskModel_act_85 (by decide) ?_
    refine mv_put (fs' := [.int 0, .int 0, .int 0, .ref 100, .ref 101, .ref 102, .ref 103, .ref 104, .ref 105, .ref 106, .ref 107, .ref 108, .ref 109, .ref 110, .int 0, .int 0, .int 0, .int 0, .int 0, .int 0, .int 0, .int (-1), .int 0, .int 1, .int 0, .ref 111, .ref 112, .int 1, .ref 113, .ref 114, .ref 115, .int 0, .int 0, .ref 116, .ref 117, .ref 118, .ref 119, .ref 120, .ref 121, .ref 122, .ref 123, .ref 124, .ref 125, .ref 126, .ref 127, .ref 128, .ref 129, .ref 130, .ref 131, .int 0, .ref 132, .int 0, .ref 133, .int 0, .ref 134, .ref 135, .ref 136, .ref 137, .ref 138, .ref 139, .ref 140, .ref 141, .ref 142, .ref 143, .ref 144, .ref 145, .ref 146, .int 0, .long 0, .int 0, .int 0, .ref 147]) d_TrustDeskModel_act_86 p_TrustDeskModel_378_13 ((mj_up_ne _ _ (Nat.ne_of_beq_eq_false rfl)).trans ((mj_up_ne _ _ (Nat.ne_of_beq_eq_false rfl)).trans ((mj_up_ne _ _ (Nat.ne_of_beq_eq_false rfl)).trans (mj_up_self _ _ _)))) (Nat.le_of_ble_eq_true rfl) rfl rfl rfl ?_
    refine mv_aload_n d_TrustDeskModel_act_89 rfl rfl ?_
    refine mv_get d_TrustDeskModel_act_90 f_TrustDeskModel_23_13 (mj_up_self _ _ _) rfl ?_
    refine mv_aload_n d_TrustDeskModel_act_93 rfl rfl ?_
    refine mv_get d_TrustDeskModel_act_94 f_TrustDeskModel_378_13 (mj_up_self _ _ _) rfl ?_
    refine mv_iconst (v := 1) d_TrustDeskModel_act_97 (by decide) ?_
    refine mv_isubv (v := 0) d_TrustDeskModel_act_98 (by decide) ?_
    refine mv_iald (v := 0) d_TrustDeskModel_act_99 ((mj_up_ne _ _ (Nat.ne_of_beq_eq_false rfl)).trans ((mj_up_ne _ _ (Nat.ne_of_beq_eq_false rfl)).trans (mj_up_self _ _ _))) (by unfold vp_in; decide) rfl ?_
    exact mv_iret d_TrustDeskModel_act_100 rfl (by first | rfl | decide) ⟨(by unfold e_act; first | rw [if_pos (by omega)] | rw [if_neg (by omega)]), fun a ha1 ha2 => (mj_up_ne _ _ (show a ≠ 99 by omega)).trans ((mj_up_ne _ _ (show a ≠ 113 by omega)).trans ((mj_up_ne _ _ (show a ≠ 103 by omega)).trans ((mj_up_ne _ _ (show a ≠ 102 by omega)).trans ((mj_up_ne _ _ (show a ≠ 99 by omega)).trans ((mj_up_ne _ _ (show a ≠ 99 by omega)).trans ((mj_up_ne _ _ (show a ≠ 99 by omega)).trans ((mj_up_ne _ _ (show a ≠ 99 by omega)).trans ((mj_up_ne _ _ (show a ≠ 103 by omega)).trans ((mj_up_ne _ _ (show a ≠ 102 by omega)).trans ((mj_up_ne _ _ (show a ≠ 99 by omega)).trans ((mj_up_ne _ _ (show a ≠ 99 by omega)).trans ((mj_up_ne _ _ (show a ≠ 99 by omega)).trans ((mj_up_ne _ _ (show a ≠ 99 by omega)).trans ((mj_up_ne _ _ (show a ≠ 99 by omega)).trans ((mj_up_ne _ _ (show a ≠ 99 by omega)).trans (rfl))))))))))))))))⟩
  · rw [mz_wide] at b1
    refine mv_if_eq_t (tgt := 26) d_TrustDeskModel_act_14 (by decide) (by decide) ?_
    refine mv_iconst (v := (-1)) d_TrustDeskModel_act_26 (by decide) ?_
    exact mv_iret d_TrustDeskModel_act_27 rfl (by first | rfl | decide) ⟨(by unfold e_act; first | rw [if_pos (by omega)] | rw [if_neg (by omega)]), fun a ha1 ha2 => (mj_up_ne _ _ (show a ≠ 99 by omega)).trans (rfl)⟩
abbrev kY_TrustDeskModel_holds : mj_Y := (⟨"TrustDeskModel", "holds", "(II)I"⟩, prog_14_method_47_code, 3, (Option.some Jvm.ClassFile.FieldType.int))
theorem d_TrustDeskModel_holds_0 : decode kY_TrustDeskModel_holds.2.1 0 = .ok (.aload_n 0, 1) := by decide +kernel
theorem d_TrustDeskModel_holds_1 : decode kY_TrustDeskModel_holds.2.1 1 = .ok (.iconst 0, 1) := by decide +kernel
theorem d_TrustDeskModel_holds_2 : decode kY_TrustDeskModel_holds.2.1 2 = .ok (.putfield 1, 3) := by decide +kernel
theorem d_TrustDeskModel_holds_5 : decode kY_TrustDeskModel_holds.2.1 5 = .ok (.iload_n 1, 1) := by decide +kernel
theorem d_TrustDeskModel_holds_6 : decode kY_TrustDeskModel_holds.2.1 6 = .ok (.i2l, 1) := by decide +kernel
theorem d_TrustDeskModel_holds_7 : decode kY_TrustDeskModel_holds.2.1 7 = .ok (.lconst 0, 1) := by decide +kernel
theorem d_TrustDeskModel_holds_8 : decode kY_TrustDeskModel_holds.2.1 8 = .ok (.ldc2_w 376, 3) := by decide +kernel
theorem d_TrustDeskModel_holds_11 : decode kY_TrustDeskModel_holds.2.1 11 = .ok (.invokestatic 169, 3) := by decide +kernel
theorem d_TrustDeskModel_holds_14 : decode kY_TrustDeskModel_holds.2.1 14 = .ok (.ifCond .eq 24, 3) := by decide +kernel
theorem d_TrustDeskModel_holds_17 : decode kY_TrustDeskModel_holds.2.1 17 = .ok (.iload_n 2, 1) := by decide +kernel
theorem d_TrustDeskModel_holds_18 : decode kY_TrustDeskModel_holds.2.1 18 = .ok (.i2l, 1) := by decide +kernel
theorem d_TrustDeskModel_holds_19 : decode kY_TrustDeskModel_holds.2.1 19 = .ok (.lconst 0, 1) := by decide +kernel
theorem d_TrustDeskModel_holds_20 : decode kY_TrustDeskModel_holds.2.1 20 = .ok (.ldc2_w 394, 3) := by decide +kernel
theorem k_TrustDeskModel_394 : Cond.constantLong "TrustDeskModel" 394 5 ∈ mj_T := (mj_in1 (List.mem_of_getElem? (i := 1784) (by decide +kernel)) rfl)
theorem d_TrustDeskModel_holds_23 : decode kY_TrustDeskModel_holds.2.1 23 = .ok (.invokestatic 169, 3) := by decide +kernel
theorem c_TrustDeskModel_within_3 {g : mj_G} {l : Launch} {d nx : Nat} {M : mj_M} {x0 : Int64} : mj_Met g l kY_TrustDeskModel_within d [.long x0, .long 0, .long 5] M nx 0 0 (mj_B (0 ≤ x0.toInt ∧ x0.toInt ≤ 5) M nx) := by
  refine mj_enter (by decide) (Nat.le_of_ble_eq_true rfl) ?_
  refine mv_lload_n d_TrustDeskModel_within_0 rfl rfl ?_
  refine mv_lload_n d_TrustDeskModel_within_1 rfl rfl ?_
  refine mv_lltZ (tgt := 17) (a := x0.toInt) (b := 0) d_TrustDeskModel_within_2 d_TrustDeskModel_within_3 (by decide) rfl (by decide) (fun b1 => ?_) (fun b1 => ?_)
  · refine mv_iconst (v := 0) d_TrustDeskModel_within_17 (by decide) ?_
    exact mv_iret d_TrustDeskModel_within_18 rfl (by first | rfl | decide) ⟨Or.inr ⟨by omega, rfl⟩, rfl, rfl⟩
  · refine mv_lload_n d_TrustDeskModel_within_6 rfl rfl ?_
    refine mv_lload d_TrustDeskModel_within_7 rfl ?_
    refine mv_lgtZ (tgt := 17) (a := x0.toInt) (b := 5) d_TrustDeskModel_within_9 d_TrustDeskModel_within_10 (by decide) rfl (by decide) (fun b2 => ?_) (fun b2 => ?_)
    · refine mv_iconst (v := 0) d_TrustDeskModel_within_17 (by decide) ?_
      exact mv_iret d_TrustDeskModel_within_18 rfl (by first | rfl | decide) ⟨Or.inr ⟨by omega, rfl⟩, rfl, rfl⟩
    · refine mv_iconst (v := 1) d_TrustDeskModel_within_13 (by decide) ?_
      refine mv_goto (tgt := 18) d_TrustDeskModel_within_14 (by decide) ?_
      exact mv_iret d_TrustDeskModel_within_18 rfl (by first | rfl | decide) ⟨Or.inl ⟨by omega, rfl⟩, rfl, rfl⟩
theorem d_TrustDeskModel_holds_26 : decode kY_TrustDeskModel_holds.2.1 26 = .ok (.ifCond .eq 12, 3) := by decide +kernel
theorem d_TrustDeskModel_holds_29 : decode kY_TrustDeskModel_holds.2.1 29 = .ok (.aload_n 0, 1) := by decide +kernel
theorem d_TrustDeskModel_holds_30 : decode kY_TrustDeskModel_holds.2.1 30 = .ok (.iload_n 1, 1) := by decide +kernel
theorem d_TrustDeskModel_holds_31 : decode kY_TrustDeskModel_holds.2.1 31 = .ok (.iload_n 2, 1) := by decide +kernel
theorem d_TrustDeskModel_holds_32 : decode kY_TrustDeskModel_holds.2.1 32 = .ok (.invokevirtual 396, 3) := by decide +kernel
abbrev kY_TrustDeskModel_toldOn : mj_Y := (⟨"TrustDeskModel", "toldOn", "(II)I"⟩, prog_14_method_46_code, 6, (Option.some Jvm.ClassFile.FieldType.int))
theorem lV_TrustDeskModel_396 : mj_lV "TrustDeskModel" 396 kY_TrustDeskModel_toldOn 2 := ⟨⟨(mj_in1 (List.mem_of_getElem? (i := 1785) (by decide +kernel)) rfl), (mj_in1 (List.mem_of_getElem? (i := 10) (by decide +kernel)) rfl), (mj_in1 (List.mem_of_getElem? (i := 1788) (by decide +kernel)) rfl), by decide, rfl, by decide⟩, (mj_in1 (List.mem_of_getElem? (i := 1787) (by decide +kernel)) rfl), (mj_in (List.mem_append_left _ (List.mem_of_getElem? (i := 104) (by decide +kernel))) rfl)⟩
theorem d_TrustDeskModel_toldOn_0 : decode kY_TrustDeskModel_toldOn.2.1 0 = .ok (.iload_n 2, 1) := by decide +kernel
theorem d_TrustDeskModel_toldOn_1 : decode kY_TrustDeskModel_toldOn.2.1 1 = .ok (.ifCond .ne 7, 3) := by decide +kernel
theorem d_TrustDeskModel_toldOn_8 : decode kY_TrustDeskModel_toldOn.2.1 8 = .ok (.iload_n 2, 1) := by decide +kernel
theorem d_TrustDeskModel_toldOn_9 : decode kY_TrustDeskModel_toldOn.2.1 9 = .ok (.iconst 1, 1) := by decide +kernel
theorem d_TrustDeskModel_toldOn_10 : decode kY_TrustDeskModel_toldOn.2.1 10 = .ok (.if_icmp .ne 7, 3) := by decide +kernel
theorem d_TrustDeskModel_toldOn_17 : decode kY_TrustDeskModel_toldOn.2.1 17 = .ok (.iload_n 2, 1) := by decide +kernel
theorem d_TrustDeskModel_toldOn_18 : decode kY_TrustDeskModel_toldOn.2.1 18 = .ok (.iconst 2, 1) := by decide +kernel
theorem d_TrustDeskModel_toldOn_19 : decode kY_TrustDeskModel_toldOn.2.1 19 = .ok (.if_icmp .ne 8, 3) := by decide +kernel
theorem d_TrustDeskModel_toldOn_27 : decode kY_TrustDeskModel_toldOn.2.1 27 = .ok (.iload_n 2, 1) := by decide +kernel
theorem d_TrustDeskModel_toldOn_28 : decode kY_TrustDeskModel_toldOn.2.1 28 = .ok (.iconst 3, 1) := by decide +kernel
theorem d_TrustDeskModel_toldOn_29 : decode kY_TrustDeskModel_toldOn.2.1 29 = .ok (.if_icmp .ne 8, 3) := by decide +kernel
theorem d_TrustDeskModel_toldOn_37 : decode kY_TrustDeskModel_toldOn.2.1 37 = .ok (.iload_n 2, 1) := by decide +kernel
theorem d_TrustDeskModel_toldOn_38 : decode kY_TrustDeskModel_toldOn.2.1 38 = .ok (.iconst 4, 1) := by decide +kernel
theorem d_TrustDeskModel_toldOn_39 : decode kY_TrustDeskModel_toldOn.2.1 39 = .ok (.if_icmp .ne 7, 3) := by decide +kernel
theorem d_TrustDeskModel_toldOn_46 : decode kY_TrustDeskModel_toldOn.2.1 46 = .ok (.bipush 20, 2) := by decide +kernel
theorem d_TrustDeskModel_toldOn_48 : decode kY_TrustDeskModel_toldOn.2.1 48 = .ok (.istore_n 3, 1) := by decide +kernel
theorem d_TrustDeskModel_toldOn_49 : decode kY_TrustDeskModel_toldOn.2.1 49 = .ok (.aload_n 0, 1) := by decide +kernel
theorem d_TrustDeskModel_toldOn_50 : decode kY_TrustDeskModel_toldOn.2.1 50 = .ok (.iload_n 1, 1) := by decide +kernel
theorem d_TrustDeskModel_toldOn_51 : decode kY_TrustDeskModel_toldOn.2.1 51 = .ok (.invokevirtual 391, 3) := by decide +kernel
abbrev kY_TrustDeskModel_actOn : mj_Y := (⟨"TrustDeskModel", "actOn", "(I)I"⟩, prog_14_method_45_code, 4, (Option.some Jvm.ClassFile.FieldType.int))
theorem lV_TrustDeskModel_391 : mj_lV "TrustDeskModel" 391 kY_TrustDeskModel_actOn 1 := ⟨⟨(mj_in1 (List.mem_of_getElem? (i := 1789) (by decide +kernel)) rfl), (mj_in1 (List.mem_of_getElem? (i := 10) (by decide +kernel)) rfl), (mj_in1 (List.mem_of_getElem? (i := 1792) (by decide +kernel)) rfl), by decide, rfl, by decide⟩, (mj_in1 (List.mem_of_getElem? (i := 1791) (by decide +kernel)) rfl), (mj_in (List.mem_append_left _ (List.mem_of_getElem? (i := 105) (by decide +kernel))) rfl)⟩
theorem d_TrustDeskModel_actOn_0 : decode kY_TrustDeskModel_actOn.2.1 0 = .ok (.iconst (-1), 1) := by decide +kernel
theorem d_TrustDeskModel_actOn_1 : decode kY_TrustDeskModel_actOn.2.1 1 = .ok (.istore_n 2, 1) := by decide +kernel
theorem d_TrustDeskModel_actOn_2 : decode kY_TrustDeskModel_actOn.2.1 2 = .ok (.iconst 0, 1) := by decide +kernel
theorem d_TrustDeskModel_actOn_3 : decode kY_TrustDeskModel_actOn.2.1 3 = .ok (.istore_n 3, 1) := by decide +kernel
theorem d_TrustDeskModel_actOn_4 : decode kY_TrustDeskModel_actOn.2.1 4 = .ok (.iload_n 3, 1) := by decide +kernel
theorem d_TrustDeskModel_actOn_5 : decode kY_TrustDeskModel_actOn.2.1 5 = .ok (.aload_n 0, 1) := by decide +kernel
theorem d_TrustDeskModel_actOn_6 : decode kY_TrustDeskModel_actOn.2.1 6 = .ok (.getfield 378, 3) := by decide +kernel
theorem d_TrustDeskModel_actOn_9 : decode kY_TrustDeskModel_actOn.2.1 9 = .ok (.if_icmp .ge 41, 3) := by decide +kernel
theorem d_TrustDeskModel_actOn_50 : decode kY_TrustDeskModel_actOn.2.1 50 = .ok (.iload_n 2, 1) := by decide +kernel
theorem d_TrustDeskModel_actOn_51 : decode kY_TrustDeskModel_actOn.2.1 51 = .ok (.ireturn, 1) := by decide +kernel
theorem c_TrustDeskModel_actOn_0 {g : mj_G} {l : Launch} {d nx : Nat} {M : mj_M} {x1 : Int32} (h_99 : M 99 = some (.inr (13, [.int 0, .int 0, .int 0, .ref 100, .ref 101, .ref 102, .ref 103, .ref 104, .ref 105, .ref 106, .ref 107, .ref 108, .ref 109, .ref 110, .int 0, .int 0, .int 0, .int 0, .int 0, .int 0, .int 0, .int (-1), .int 0, .int 0, .int 0, .ref 111, .ref 112, .int 0, .ref 113, .ref 114, .ref 115, .int 0, .int 0, .ref 116, .ref 117, .ref 118, .ref 119, .ref 120, .ref 121, .ref 122, .ref 123, .ref 124, .ref 125, .ref 126, .ref 127, .ref 128, .ref 129, .ref 130, .ref 131, .int 0, .ref 132, .int 0, .ref 133, .int 0, .ref 134, .ref 135, .ref 136, .ref 137, .ref 138, .ref 139, .ref 140, .ref 141, .ref 142, .ref 143, .ref 144, .ref 145, .ref 146, .int 0, .long 0, .int 0, .int 0, .ref 147]))) : mj_Met g l kY_TrustDeskModel_actOn d [.ref 99, .int x1] M nx 0 0 (mj_E1 (some (.int (-1))) M nx) := by
  refine mj_enter (by decide) (Nat.le_of_ble_eq_true rfl) ?_
  refine mv_iconst (v := (-1)) d_TrustDeskModel_actOn_0 (by decide) ?_
  refine mv_istore_n (lv' := [(2, .int (-1)), (0, .ref 99), (1, .int x1)]) d_TrustDeskModel_actOn_1 rfl (by decide) rfl ?_
  refine mv_iconst (v := 0) d_TrustDeskModel_actOn_2 (by decide) ?_
  refine mv_istore_n (lv' := [(3, .int 0), (2, .int (-1)), (0, .ref 99), (1, .int x1)]) d_TrustDeskModel_actOn_3 rfl (by decide) rfl ?_
  refine mv_iload_n d_TrustDeskModel_actOn_4 rfl rfl ?_
  refine mv_aload_n d_TrustDeskModel_actOn_5 rfl rfl ?_
  refine mv_get d_TrustDeskModel_actOn_6 f_TrustDeskModel_378_13 h_99 rfl ?_
  refine mv_icmp_ge_t (tgt := 50) d_TrustDeskModel_actOn_9 (by decide) (by decide) ?_
  refine mv_iload_n d_TrustDeskModel_actOn_50 rfl rfl ?_
  exact mv_iret d_TrustDeskModel_actOn_51 rfl (by first | rfl | decide) ⟨rfl, rfl, rfl⟩
theorem d_TrustDeskModel_toldOn_54 : decode kY_TrustDeskModel_toldOn.2.1 54 = .ok (.istore 4, 2) := by decide +kernel
theorem d_TrustDeskModel_toldOn_56 : decode kY_TrustDeskModel_toldOn.2.1 56 = .ok (.iconst 0, 1) := by decide +kernel
theorem d_TrustDeskModel_toldOn_57 : decode kY_TrustDeskModel_toldOn.2.1 57 = .ok (.istore 5, 2) := by decide +kernel
theorem d_TrustDeskModel_toldOn_59 : decode kY_TrustDeskModel_toldOn.2.1 59 = .ok (.iload 4, 2) := by decide +kernel
theorem d_TrustDeskModel_toldOn_61 : decode kY_TrustDeskModel_toldOn.2.1 61 = .ok (.iconst (-1), 1) := by decide +kernel
theorem d_TrustDeskModel_toldOn_62 : decode kY_TrustDeskModel_toldOn.2.1 62 = .ok (.if_icmp .eq 52, 3) := by decide +kernel
theorem d_TrustDeskModel_toldOn_114 : decode kY_TrustDeskModel_toldOn.2.1 114 = .ok (.iload_n 3, 1) := by decide +kernel
theorem d_TrustDeskModel_toldOn_115 : decode kY_TrustDeskModel_toldOn.2.1 115 = .ok (.ireturn, 1) := by decide +kernel
theorem d_TrustDeskModel_toldOn_42 : decode kY_TrustDeskModel_toldOn.2.1 42 = .ok (.iconst 0, 1) := by decide +kernel
theorem d_TrustDeskModel_toldOn_43 : decode kY_TrustDeskModel_toldOn.2.1 43 = .ok (.goto 5, 3) := by decide +kernel
theorem d_TrustDeskModel_toldOn_32 : decode kY_TrustDeskModel_toldOn.2.1 32 = .ok (.bipush 90, 2) := by decide +kernel
theorem d_TrustDeskModel_toldOn_34 : decode kY_TrustDeskModel_toldOn.2.1 34 = .ok (.goto 14, 3) := by decide +kernel
theorem d_TrustDeskModel_toldOn_22 : decode kY_TrustDeskModel_toldOn.2.1 22 = .ok (.bipush 30, 2) := by decide +kernel
theorem d_TrustDeskModel_toldOn_24 : decode kY_TrustDeskModel_toldOn.2.1 24 = .ok (.goto 24, 3) := by decide +kernel
theorem d_TrustDeskModel_toldOn_13 : decode kY_TrustDeskModel_toldOn.2.1 13 = .ok (.iconst 1, 1) := by decide +kernel
theorem d_TrustDeskModel_toldOn_14 : decode kY_TrustDeskModel_toldOn.2.1 14 = .ok (.goto 34, 3) := by decide +kernel
theorem d_TrustDeskModel_toldOn_4 : decode kY_TrustDeskModel_toldOn.2.1 4 = .ok (.iconst 3, 1) := by decide +kernel
theorem d_TrustDeskModel_toldOn_5 : decode kY_TrustDeskModel_toldOn.2.1 5 = .ok (.goto 43, 3) := by decide +kernel
theorem c_TrustDeskModel_toldOn_0 {g : mj_G} {l : Launch} {d nx : Nat} {M : mj_M} {x1 : Int32} {x2 : Int32} (h_99 : M 99 = some (.inr (13, [.int 0, .int 0, .int 0, .ref 100, .ref 101, .ref 102, .ref 103, .ref 104, .ref 105, .ref 106, .ref 107, .ref 108, .ref 109, .ref 110, .int 0, .int 0, .int 0, .int 0, .int 0, .int 0, .int 0, .int (-1), .int 0, .int 0, .int 0, .ref 111, .ref 112, .int 0, .ref 113, .ref 114, .ref 115, .int 0, .int 0, .ref 116, .ref 117, .ref 118, .ref 119, .ref 120, .ref 121, .ref 122, .ref 123, .ref 124, .ref 125, .ref 126, .ref 127, .ref 128, .ref 129, .ref 130, .ref 131, .int 0, .ref 132, .int 0, .ref 133, .int 0, .ref 134, .ref 135, .ref 136, .ref 137, .ref 138, .ref 139, .ref 140, .ref 141, .ref 142, .ref 143, .ref 144, .ref 145, .ref 146, .int 0, .long 0, .int 0, .int 0, .ref 147]))) : mj_Met g l kY_TrustDeskModel_toldOn (d + 1) [.ref 99, .int x1, .int x2] M nx 0 0 (mj_E1 (some (.int (e_told x2))) M nx) := by
  refine mj_enter (by decide) (Nat.le_of_ble_eq_true rfl) ?_
  refine mv_iload_n d_TrustDeskModel_toldOn_0 rfl rfl ?_
  refine mv_if_neZ (tgt := 8) (a := x2.toInt) d_TrustDeskModel_toldOn_1 (by decide) rfl (fun b1 => ?_) (fun b1 => ?_)
  · refine mv_iload_n d_TrustDeskModel_toldOn_8 rfl rfl ?_
    refine mv_iconst (v := 1) d_TrustDeskModel_toldOn_9 (by decide) ?_
    refine mv_icmp_neZ (tgt := 17) (a := x2.toInt) (b := 1) d_TrustDeskModel_toldOn_10 (by decide) rfl (by decide) (fun b2 => ?_) (fun b2 => ?_)
    · refine mv_iload_n d_TrustDeskModel_toldOn_17 rfl rfl ?_
      refine mv_iconst (v := 2) d_TrustDeskModel_toldOn_18 (by decide) ?_
      refine mv_icmp_neZ (tgt := 27) (a := x2.toInt) (b := 2) d_TrustDeskModel_toldOn_19 (by decide) rfl (by decide) (fun b3 => ?_) (fun b3 => ?_)
      · refine mv_iload_n d_TrustDeskModel_toldOn_27 rfl rfl ?_
        refine mv_iconst (v := 3) d_TrustDeskModel_toldOn_28 (by decide) ?_
        refine mv_icmp_neZ (tgt := 37) (a := x2.toInt) (b := 3) d_TrustDeskModel_toldOn_29 (by decide) rfl (by decide) (fun b4 => ?_) (fun b4 => ?_)
        · refine mv_iload_n d_TrustDeskModel_toldOn_37 rfl rfl ?_
          refine mv_iconst (v := 4) d_TrustDeskModel_toldOn_38 (by decide) ?_
          refine mv_icmp_neZ (tgt := 46) (a := x2.toInt) (b := 4) d_TrustDeskModel_toldOn_39 (by decide) rfl (by decide) (fun b5 => ?_) (fun b5 => ?_)
          · refine mv_bipush (v := 20) d_TrustDeskModel_toldOn_46 (by decide) ?_
            refine mv_istore_n (lv' := [(3, .int 20), (0, .ref 99), (1, .int x1), (2, .int x2)]) d_TrustDeskModel_toldOn_48 rfl (by decide) rfl ?_
            refine mv_aload_n d_TrustDeskModel_toldOn_49 rfl rfl ?_
            refine mv_iload_n d_TrustDeskModel_toldOn_50 rfl rfl ?_
            refine mv_callV_s (kc' := 0) (ks' := 0) [.int x1] [.int x1, .ref 99] d_TrustDeskModel_toldOn_51 lV_TrustDeskModel_391 h_99 rfl (c_TrustDeskModel_actOn_0 (d := d) (x1 := x1) (h_99 := h_99)) rfl (Nat.le_of_ble_eq_true rfl) (Nat.le_of_ble_eq_true rfl) (Nat.le_of_ble_eq_true rfl) rfl ?_
            refine mv_istore (lv' := [(4, .int (-1)), (3, .int 20), (0, .ref 99), (1, .int x1), (2, .int x2)]) d_TrustDeskModel_toldOn_54 (by decide) rfl ?_
            refine mv_iconst (v := 0) d_TrustDeskModel_toldOn_56 (by decide) ?_
            refine mv_istore (lv' := [(5, .int 0), (4, .int (-1)), (3, .int 20), (0, .ref 99), (1, .int x1), (2, .int x2)]) d_TrustDeskModel_toldOn_57 (by decide) rfl ?_
            refine mv_iload d_TrustDeskModel_toldOn_59 rfl ?_
            refine mv_iconst (v := (-1)) d_TrustDeskModel_toldOn_61 (by decide) ?_
            refine mv_icmp_eq_t (tgt := 114) d_TrustDeskModel_toldOn_62 (by decide) (by decide) ?_
            refine mv_iload_n d_TrustDeskModel_toldOn_114 rfl rfl ?_
            exact mv_iret d_TrustDeskModel_toldOn_115 rfl (by first | rfl | decide) ⟨(by unfold e_told; repeat (first | rw [if_pos (by omega)] | rw [if_neg (by omega)])), rfl, rfl⟩
          · refine mv_iconst (v := 0) d_TrustDeskModel_toldOn_42 (by decide) ?_
            refine mv_goto (tgt := 48) d_TrustDeskModel_toldOn_43 (by decide) ?_
            refine mv_istore_n (lv' := [(3, .int 0), (0, .ref 99), (1, .int x1), (2, .int x2)]) d_TrustDeskModel_toldOn_48 rfl (by decide) rfl ?_
            refine mv_aload_n d_TrustDeskModel_toldOn_49 rfl rfl ?_
            refine mv_iload_n d_TrustDeskModel_toldOn_50 rfl rfl ?_
            refine mv_callV_s (kc' := 0) (ks' := 0) [.int x1] [.int x1, .ref 99] d_TrustDeskModel_toldOn_51 lV_TrustDeskModel_391 h_99 rfl (c_TrustDeskModel_actOn_0 (d := d) (x1 := x1) (h_99 := h_99)) rfl (Nat.le_of_ble_eq_true rfl) (Nat.le_of_ble_eq_true rfl) (Nat.le_of_ble_eq_true rfl) rfl ?_
            refine mv_istore (lv' := [(4, .int (-1)), (3, .int 0), (0, .ref 99), (1, .int x1), (2, .int x2)]) d_TrustDeskModel_toldOn_54 (by decide) rfl ?_
            refine mv_iconst (v := 0) d_TrustDeskModel_toldOn_56 (by decide) ?_
            refine mv_istore (lv' := [(5, .int 0), (4, .int (-1)), (3, .int 0), (0, .ref 99), (1, .int x1), (2, .int x2)]) d_TrustDeskModel_toldOn_57 (by decide) rfl ?_
            refine mv_iload d_TrustDeskModel_toldOn_59 rfl ?_
            refine mv_iconst (v := (-1)) d_TrustDeskModel_toldOn_61 (by decide) ?_
            refine mv_icmp_eq_t (tgt := 114) d_TrustDeskModel_toldOn_62 (by decide) (by decide) ?_
            refine mv_iload_n d_TrustDeskModel_toldOn_114 rfl rfl ?_
            exact mv_iret d_TrustDeskModel_toldOn_115 rfl (by first | rfl | decide) ⟨(by unfold e_told; repeat (first | rw [if_pos (by omega)] | rw [if_neg (by omega)])), rfl, rfl⟩
        · refine mv_bipush (v := 90) d_TrustDeskModel_toldOn_32 (by decide) ?_
          refine mv_goto (tgt := 48) d_TrustDeskModel_toldOn_34 (by decide) ?_
          refine mv_istore_n (lv' := [(3, .int 90), (0, .ref 99), (1, .int x1), (2, .int x2)]) d_TrustDeskModel_toldOn_48 rfl (by decide) rfl ?_
          refine mv_aload_n d_TrustDeskModel_toldOn_49 rfl rfl ?_
          refine mv_iload_n d_TrustDeskModel_toldOn_50 rfl rfl ?_
          refine mv_callV_s (kc' := 0) (ks' := 0) [.int x1] [.int x1, .ref 99] d_TrustDeskModel_toldOn_51 lV_TrustDeskModel_391 h_99 rfl (c_TrustDeskModel_actOn_0 (d := d) (x1 := x1) (h_99 := h_99)) rfl (Nat.le_of_ble_eq_true rfl) (Nat.le_of_ble_eq_true rfl) (Nat.le_of_ble_eq_true rfl) rfl ?_
          refine mv_istore (lv' := [(4, .int (-1)), (3, .int 90), (0, .ref 99), (1, .int x1), (2, .int x2)]) d_TrustDeskModel_toldOn_54 (by decide) rfl ?_
          refine mv_iconst (v := 0) d_TrustDeskModel_toldOn_56 (by decide) ?_
          refine mv_istore (lv' := [(5, .int 0), (4, .int (-1)), (3, .int 90), (0, .ref 99), (1, .int x1), (2, .int x2)]) d_TrustDeskModel_toldOn_57 (by decide) rfl ?_
          refine mv_iload d_TrustDeskModel_toldOn_59 rfl ?_
          refine mv_iconst (v := (-1)) d_TrustDeskModel_toldOn_61 (by decide) ?_
          refine mv_icmp_eq_t (tgt := 114) d_TrustDeskModel_toldOn_62 (by decide) (by decide) ?_
          refine mv_iload_n d_TrustDeskModel_toldOn_114 rfl rfl ?_
          exact mv_iret d_TrustDeskModel_toldOn_115 rfl (by first | rfl | decide) ⟨(by unfold e_told; repeat (first | rw [if_pos (by omega)] | rw [if_neg (by omega)])), rfl, rfl⟩
      · refine mv_bipush (v := 30) d_TrustDeskModel_toldOn_22 (by decide) ?_
        refine mv_goto (tgt := 48) d_TrustDeskModel_toldOn_24 (by decide) ?_
        refine mv_istore_n (lv' := [(3, .int 30), (0, .ref 99), (1, .int x1), (2, .int x2)]) d_TrustDeskModel_toldOn_48 rfl (by decide) rfl ?_
        refine mv_aload_n d_TrustDeskModel_toldOn_49 rfl rfl ?_
        refine mv_iload_n d_TrustDeskModel_toldOn_50 rfl rfl ?_
        refine mv_callV_s (kc' := 0) (ks' := 0) [.int x1] [.int x1, .ref 99] d_TrustDeskModel_toldOn_51 lV_TrustDeskModel_391 h_99 rfl (c_TrustDeskModel_actOn_0 (d := d) (x1 := x1) (h_99 := h_99)) rfl (Nat.le_of_ble_eq_true rfl) (Nat.le_of_ble_eq_true rfl) (Nat.le_of_ble_eq_true rfl) rfl ?_
        refine mv_istore (lv' := [(4, .int (-1)), (3, .int 30), (0, .ref 99), (1, .int x1), (2, .int x2)]) d_TrustDeskModel_toldOn_54 (by decide) rfl ?_
        refine mv_iconst (v := 0) d_TrustDeskModel_toldOn_56 (by decide) ?_
        refine mv_istore (lv' := [(5, .int 0), (4, .int (-1)), (3, .int 30), (0, .ref 99), (1, .int x1), (2, .int x2)]) d_TrustDeskModel_toldOn_57 (by decide) rfl ?_
        refine mv_iload d_TrustDeskModel_toldOn_59 rfl ?_
        refine mv_iconst (v := (-1)) d_TrustDeskModel_toldOn_61 (by decide) ?_
        refine mv_icmp_eq_t (tgt := 114) d_TrustDeskModel_toldOn_62 (by decide) (by decide) ?_
        refine mv_iload_n d_TrustDeskModel_toldOn_114 rfl rfl ?_
        exact mv_iret d_TrustDeskModel_toldOn_115 rfl (by first | rfl | decide) ⟨(by unfold e_told; repeat (first | rw [if_pos (by omega)] | rw [if_neg (by omega)])), rfl, rfl⟩
    · refine mv_iconst (v := 1) d_TrustDeskModel_toldOn_13 (by decide) ?_
      refine mv_goto (tgt := 48) d_TrustDeskModel_toldOn_14 (by decide) ?_
      refine mv_istore_n (lv' := [(3, .int 1), (0, .ref 99), (1, .int x1), (2, .int x2)]) d_TrustDeskModel_toldOn_48 rfl (by decide) rfl ?_
      refine mv_aload_n d_TrustDeskModel_toldOn_49 rfl rfl ?_
      refine mv_iload_n d_TrustDeskModel_toldOn_50 rfl rfl ?_
      refine mv_callV_s (kc' := 0) (ks' := 0) [.int x1] [.int x1, .ref 99] d_TrustDeskModel_toldOn_51 lV_TrustDeskModel_391 h_99 rfl (c_TrustDeskModel_actOn_0 (d := d) (x1 := x1) (h_99 := h_99)) rfl (Nat.le_of_ble_eq_true rfl) (Nat.le_of_ble_eq_true rfl) (Nat.le_of_ble_eq_true rfl) rfl ?_
      refine mv_istore (lv' := [(4, .int (-1)), (3, .int 1), (0, .ref 99), (1, .int x1), (2, .int x2)]) d_TrustDeskModel_toldOn_54 (by decide) rfl ?_
      refine mv_iconst (v := 0) d_TrustDeskModel_toldOn_56 (by decide) ?_
      refine mv_istore (lv' := [(5, .int 0), (4, .int (-1)), (3, .int 1), (0, .ref 99), (1, .int x1), (2, .int x2)]) d_TrustDeskModel_toldOn_57 (by decide) rfl ?_
      refine mv_iload d_TrustDeskModel_toldOn_59 rfl ?_
      refine mv_iconst (v := (-1)) d_TrustDeskModel_toldOn_61 (by decide) ?_
      refine mv_icmp_eq_t (tgt := 114) d_TrustDeskModel_toldOn_62 (by decide) (by decide) ?_
      refine mv_iload_n d_TrustDeskModel_toldOn_114 rfl rfl ?_
      exact mv_iret d_TrustDeskModel_toldOn_115 rfl (by first | rfl | decide) ⟨(by unfold e_told; repeat (first | rw [if_pos (by omega)] | rw [if_neg (by omega)])), rfl, rfl⟩
  · refine mv_iconst (v := 3) d_TrustDeskModel_toldOn_4 (by decide) ?_
    refine mv_goto (tgt := 48) d_TrustDeskModel_toldOn_5 (by decide) ?_
    refine mv_istore_n (lv' := [(3, .int 3), (0, .ref 99), (1, .int x1), (2, .int x2)]) d_TrustDeskModel_toldOn_48 rfl (by decide) rfl ?_
    refine mv_aload_n d_TrustDeskModel_toldOn_49 rfl rfl ?_
    refine mv_iload_n d_TrustDeskModel_toldOn_50 rfl rfl ?_
    refine mv_callV_s (kc' := 0) (ks' := 0) [.int x1] [.int x1, .ref 99] d_TrustDeskModel_toldOn_51 lV_TrustDeskModel_391 h_99 rfl (c_TrustDeskModel_actOn_0 (d := d) (x1 := x1) (h_99 := h_99)) rfl (Nat.le_of_ble_eq_true rfl) (Nat.le_of_ble_eq_true rfl) (Nat.le_of_ble_eq_true rfl) rfl ?_
    refine mv_istore (lv' := [(4, .int (-1)), (3, .int 3), (0, .ref 99), (1, .int x1), (2, .int x2)]) d_TrustDeskModel_toldOn_54 (by decide) rfl ?_
    refine mv_iconst (v := 0) d_TrustDeskModel_toldOn_56 (by decide) ?_
    refine mv_istore (lv' := [(5, .int 0), (4, .int (-1)), (3, .int 3), (0, .ref 99), (1, .int x1), (2, .int x2)]) d_TrustDeskModel_toldOn_57 (by decide) rfl ?_
    refine mv_iload d_TrustDeskModel_toldOn_59 rfl ?_
    refine mv_iconst (v := (-1)) d_TrustDeskModel_toldOn_61 (by decide) ?_
    refine mv_icmp_eq_t (tgt := 114) d_TrustDeskModel_toldOn_62 (by decide) (by decide) ?_
    refine mv_iload_n d_TrustDeskModel_toldOn_114 rfl rfl ?_
    exact mv_iret d_TrustDeskModel_toldOn_115 rfl (by first | rfl | decide) ⟨(by unfold e_told; repeat (first | rw [if_pos (by omega)] | rw [if_neg (by omega)])), rfl, rfl⟩
theorem d_TrustDeskModel_holds_35 : decode kY_TrustDeskModel_holds.2.1 35 = .ok (.goto 4, 3) := by decide +kernel
theorem d_TrustDeskModel_holds_39 : decode kY_TrustDeskModel_holds.2.1 39 = .ok (.ireturn, 1) := by decide +kernel
theorem d_TrustDeskModel_holds_38 : decode kY_TrustDeskModel_holds.2.1 38 = .ok (.iconst (-1), 1) := by decide +kernel
theorem c_TrustDeskModel_holds_0 {g : mj_G} {l : Launch} {d nx : Nat} {M : mj_M} {x1 : Int32} {x2 : Int32} (h_99 : M 99 = some (.inr (13, [.int 0, .int 0, .int 0, .ref 100, .ref 101, .ref 102, .ref 103, .ref 104, .ref 105, .ref 106, .ref 107, .ref 108, .ref 109, .ref 110, .int 0, .int 0, .int 0, .int 0, .int 0, .int 0, .int 0, .int (-1), .int 0, .int 0, .int 0, .ref 111, .ref 112, .int 0, .ref 113, .ref 114, .ref 115, .int 0, .int 0, .ref 116, .ref 117, .ref 118, .ref 119, .ref 120, .ref 121, .ref 122, .ref 123, .ref 124, .ref 125, .ref 126, .ref 127, .ref 128, .ref 129, .ref 130, .ref 131, .int 0, .ref 132, .int 0, .ref 133, .int 0, .ref 134, .ref 135, .ref 136, .ref 137, .ref 138, .ref 139, .ref 140, .ref 141, .ref 142, .ref 143, .ref 144, .ref 145, .ref 146, .int 0, .long 0, .int 0, .int 0, .ref 147]))) : mj_Met g l kY_TrustDeskModel_holds (d + 2) [.ref 99, .int x1, .int x2] M nx 0 0 (mj_KP (some (.int (e_holds x1 x2))) M 0 0) := by
  refine mj_enter (by decide) (Nat.le_of_ble_eq_true rfl) ?_
  refine mv_aload_n d_TrustDeskModel_holds_0 rfl rfl ?_
  refine mv_iconst (v := 0) d_TrustDeskModel_holds_1 (by decide) ?_
  refine mv_put (fs' := [.int 0, .int 0, .int 0, .ref 100, .ref 101, .ref 102, .ref 103, .ref 104, .ref 105, .ref 106, .ref 107, .ref 108, .ref 109, .ref 110, .int 0, .int 0, .int 0, .int 0, .int 0, .int 0, .int 0, .int (-1), .int 0, .int 0, .int 0, .ref 111, .ref 112, .int 0, .ref 113, .ref 114, .ref 115, .int 0, .int 0, .ref 116, .ref 117, .ref 118, .ref 119, .ref 120, .ref 121, .ref 122, .ref 123, .ref 124, .ref 125, .ref 126, .ref 127, .ref 128, .ref 129, .ref 130, .ref 131, .int 0, .ref 132, .int 0, .ref 133, .int 0, .ref 134, .ref 135, .ref 136, .ref 137, .ref 138, .ref 139, .ref 140, .ref 141, .ref 142, .ref 143, .ref 144, .ref 145, .ref 146, .int 0, .long 0, .int 0, .int 0, .ref 147]) d_TrustDeskModel_holds_2 p_TrustDeskModel_1_13 h_99 (Nat.le_of_ble_eq_true rfl) rfl rfl rfl ?_
  refine mv_iload_n d_TrustDeskModel_holds_5 rfl rfl ?_
  refine mv_i2l (v := x1.toInt64) d_TrustDeskModel_holds_6 rfl ?_
  refine mv_lconst (v := 0) d_TrustDeskModel_holds_7 (by decide) ?_
  refine mv_ldc2 d_TrustDeskModel_holds_8 k_TrustDeskModel_376 ?_
  refine mv_callS_b (kc' := 0) (ks' := 0) [.long x1.toInt64, .long 0, .long 36000] [.long 36000, .long 0, .long x1.toInt64] d_TrustDeskModel_holds_11 lS_TrustDeskModel_169 (c_TrustDeskModel_within_2 (d := (d + 1)) (x0 := x1.toInt64)) rfl (Nat.le_of_ble_eq_true rfl) (Nat.le_of_ble_eq_true rfl) (Nat.le_of_ble_eq_true rfl) rfl (fun b1 => ?_) (fun b1 => ?_)
  · rw [mz_wide] at b1
    refine mv_if_eq_f (tgt := 38) d_TrustDeskModel_holds_14 (by decide) (by decide) ?_
    refine mv_iload_n d_TrustDeskModel_holds_17 rfl rfl ?_
    refine mv_i2l (v := x2.toInt64) d_TrustDeskModel_holds_18 rfl ?_
    refine mv_lconst (v := 0) d_TrustDeskModel_holds_19 (by decide) ?_
    refine mv_ldc2 d_TrustDeskModel_holds_20 k_TrustDeskModel_394 ?_
    refine mv_callS_b (kc' := 0) (ks' := 0) [.long x2.toInt64, .long 0, .long 5] [.long 5, .long 0, .long x2.toInt64] d_TrustDeskModel_holds_23 lS_TrustDeskModel_169 (c_TrustDeskModel_within_3 (d := (d + 1)) (x0 := x2.toInt64)) rfl (Nat.le_of_ble_eq_true rfl) (Nat.le_of_ble_eq_true rfl) (Nat.le_of_ble_eq_true rfl) rfl (fun b2 => ?_) (fun b2 => ?_)
    · rw [mz_wide] at b2
      refine mv_if_eq_f (tgt := 38) d_TrustDeskModel_holds_26 (by decide) (by decide) ?_
      refine mv_aload_n d_TrustDeskModel_holds_29 rfl rfl ?_
      refine mv_iload_n d_TrustDeskModel_holds_30 rfl rfl ?_
      refine mv_iload_n d_TrustDeskModel_holds_31 rfl rfl ?_
      refine mv_callV_s (kc' := 0) (ks' := 0) [.int x1, .int x2] [.int x2, .int x1, .ref 99] d_TrustDeskModel_holds_32 lV_TrustDeskModel_396 (mj_up_self _ _ _) rfl (c_TrustDeskModel_toldOn_0 (d := d) (x1 := x1) (x2 := x2) (h_99 := (mj_up_self _ _ _))) rfl (Nat.le_of_ble_eq_true rfl) (Nat.le_of_ble_eq_true rfl) (Nat.le_of_ble_eq_true rfl) rfl ?_
      refine mv_goto (tgt := 39) d_TrustDeskModel_holds_35 (by decide) ?_
      exact mv_iret d_TrustDeskModel_holds_39 rfl (by first | rfl | decide) ⟨(by unfold e_holds; first | (rw [if_pos (by omega), e_told_rw (by omega) (by omega)]) | rw [if_neg (by omega)]), fun a ha1 ha2 => (mj_up_ne _ _ (show a ≠ 99 by omega)).trans (rfl)⟩
    · rw [mz_wide] at b2
      refine mv_if_eq_t (tgt := 38) d_TrustDeskModel_holds_26 (by decide) (by decide) ?_
      refine mv_iconst (v := (-1)) d_TrustDeskModel_holds_38 (by decide) ?_
      exact mv_iret d_TrustDeskModel_holds_39 rfl (by first | rfl | decide) ⟨(by unfold e_holds; first | (rw [if_pos (by omega), e_told_rw (by omega) (by omega)]) | rw [if_neg (by omega)]), fun a ha1 ha2 => (mj_up_ne _ _ (show a ≠ 99 by omega)).trans (rfl)⟩
  · rw [mz_wide] at b1
    refine mv_if_eq_t (tgt := 38) d_TrustDeskModel_holds_14 (by decide) (by decide) ?_
    refine mv_iconst (v := (-1)) d_TrustDeskModel_holds_38 (by decide) ?_
    exact mv_iret d_TrustDeskModel_holds_39 rfl (by first | rfl | decide) ⟨(by unfold e_holds; first | (rw [if_pos (by omega), e_told_rw (by omega) (by omega)]) | rw [if_neg (by omega)]), fun a ha1 ha2 => (mj_up_ne _ _ (show a ≠ 99 by omega)).trans (rfl)⟩
abbrev kY_TrustDeskModel_fund : mj_Y := (⟨"TrustDeskModel", "fund", "(II)I"⟩, prog_14_method_55_code, 8, (Option.some Jvm.ClassFile.FieldType.int))
theorem d_TrustDeskModel_fund_0 : decode kY_TrustDeskModel_fund.2.1 0 = .ok (.aload_n 0, 1) := by decide +kernel
theorem d_TrustDeskModel_fund_1 : decode kY_TrustDeskModel_fund.2.1 1 = .ok (.iconst 0, 1) := by decide +kernel
theorem d_TrustDeskModel_fund_2 : decode kY_TrustDeskModel_fund.2.1 2 = .ok (.putfield 1, 3) := by decide +kernel
theorem d_TrustDeskModel_fund_5 : decode kY_TrustDeskModel_fund.2.1 5 = .ok (.iload_n 1, 1) := by decide +kernel
theorem d_TrustDeskModel_fund_6 : decode kY_TrustDeskModel_fund.2.1 6 = .ok (.i2l, 1) := by decide +kernel
theorem d_TrustDeskModel_fund_7 : decode kY_TrustDeskModel_fund.2.1 7 = .ok (.lconst 0, 1) := by decide +kernel
theorem d_TrustDeskModel_fund_8 : decode kY_TrustDeskModel_fund.2.1 8 = .ok (.ldc2_w 421, 3) := by decide +kernel
theorem k_TrustDeskModel_421 : Cond.constantLong "TrustDeskModel" 421 999 ∈ mj_T := (mj_in1 (List.mem_of_getElem? (i := 1797) (by decide +kernel)) rfl)
theorem d_TrustDeskModel_fund_11 : decode kY_TrustDeskModel_fund.2.1 11 = .ok (.invokestatic 169, 3) := by decide +kernel
theorem c_TrustDeskModel_within_4 {g : mj_G} {l : Launch} {d nx : Nat} {M : mj_M} {x0 : Int64} : mj_Met g l kY_TrustDeskModel_within d [.long x0, .long 0, .long 999] M nx 0 0 (mj_B (0 ≤ x0.toInt ∧ x0.toInt ≤ 999) M nx) := by
  refine mj_enter (by decide) (Nat.le_of_ble_eq_true rfl) ?_
  refine mv_lload_n d_TrustDeskModel_within_0 rfl rfl ?_
  refine mv_lload_n d_TrustDeskModel_within_1 rfl rfl ?_
  refine mv_lltZ (tgt := 17) (a := x0.toInt) (b := 0) d_TrustDeskModel_within_2 d_TrustDeskModel_within_3 (by decide) rfl (by decide) (fun b1 => ?_) (fun b1 => ?_)
  · refine mv_iconst (v := 0) d_TrustDeskModel_within_17 (by decide) ?_
    exact mv_iret d_TrustDeskModel_within_18 rfl (by first | rfl | decide) ⟨Or.inr ⟨by omega, rfl⟩, rfl, rfl⟩
  · refine mv_lload_n d_TrustDeskModel_within_6 rfl rfl ?_
    refine mv_lload d_TrustDeskModel_within_7 rfl ?_
    refine mv_lgtZ (tgt := 17) (a := x0.toInt) (b := 999) d_TrustDeskModel_within_9 d_TrustDeskModel_within_10 (by decide) rfl (by decide) (fun b2 => ?_) (fun b2 => ?_)
    · refine mv_iconst (v := 0) d_TrustDeskModel_within_17 (by decide) ?_
      exact mv_iret d_TrustDeskModel_within_18 rfl (by first | rfl | decide) ⟨Or.inr ⟨by omega, rfl⟩, rfl, rfl⟩
    · refine mv_iconst (v := 1) d_TrustDeskModel_within_13 (by decide) ?_
      refine mv_goto (tgt := 18) d_TrustDeskModel_within_14 (by decide) ?_
      exact mv_iret d_TrustDeskModel_within_18 rfl (by first | rfl | decide) ⟨Or.inl ⟨by omega, rfl⟩, rfl, rfl⟩
theorem d_TrustDeskModel_fund_14 : decode kY_TrustDeskModel_fund.2.1 14 = .ok (.ifCond .eq 24, 3) := by decide +kernel
theorem d_TrustDeskModel_fund_17 : decode kY_TrustDeskModel_fund.2.1 17 = .ok (.iload_n 2, 1) := by decide +kernel
theorem d_TrustDeskModel_fund_18 : decode kY_TrustDeskModel_fund.2.1 18 = .ok (.i2l, 1) := by decide +kernel
theorem d_TrustDeskModel_fund_19 : decode kY_TrustDeskModel_fund.2.1 19 = .ok (.lconst 0, 1) := by decide +kernel
theorem d_TrustDeskModel_fund_20 : decode kY_TrustDeskModel_fund.2.1 20 = .ok (.ldc2_w 423, 3) := by decide +kernel
theorem k_TrustDeskModel_423 : Cond.constantLong "TrustDeskModel" 423 99999 ∈ mj_T := (mj_in1 (List.mem_of_getElem? (i := 1798) (by decide +kernel)) rfl)
theorem d_TrustDeskModel_fund_23 : decode kY_TrustDeskModel_fund.2.1 23 = .ok (.invokestatic 169, 3) := by decide +kernel
theorem c_TrustDeskModel_within_5 {g : mj_G} {l : Launch} {d nx : Nat} {M : mj_M} {x0 : Int64} : mj_Met g l kY_TrustDeskModel_within d [.long x0, .long 0, .long 99999] M nx 0 0 (mj_B (0 ≤ x0.toInt ∧ x0.toInt ≤ 99999) M nx) := by
  refine mj_enter (by decide) (Nat.le_of_ble_eq_true rfl) ?_
  refine mv_lload_n d_TrustDeskModel_within_0 rfl rfl ?_
  refine mv_lload_n d_TrustDeskModel_within_1 rfl rfl ?_
  refine mv_lltZ (tgt := 17) (a := x0.toInt) (b := 0) d_TrustDeskModel_within_2 d_TrustDeskModel_within_3 (by decide) rfl (by decide) (fun b1 => ?_) (fun b1 => ?_)
  · refine mv_iconst (v := 0) d_TrustDeskModel_within_17 (by decide) ?_
    exact mv_iret d_TrustDeskModel_within_18 rfl (by first | rfl | decide) ⟨Or.inr ⟨by omega, rfl⟩, rfl, rfl⟩
  · refine mv_lload_n d_TrustDeskModel_within_6 rfl rfl ?_
    refine mv_lload d_TrustDeskModel_within_7 rfl ?_
    refine mv_lgtZ (tgt := 17) (a := x0.toInt) (b := 99999) d_TrustDeskModel_within_9 d_TrustDeskModel_within_10 (by decide) rfl (by decide) (fun b2 => ?_) (fun b2 => ?_)
    · refine mv_iconst (v := 0) d_TrustDeskModel_within_17 (by decide) ?_
      exact mv_iret d_TrustDeskModel_within_18 rfl (by first | rfl | decide) ⟨Or.inr ⟨by omega, rfl⟩, rfl, rfl⟩
    · refine mv_iconst (v := 1) d_TrustDeskModel_within_13 (by decide) ?_
      refine mv_goto (tgt := 18) d_TrustDeskModel_within_14 (by decide) ?_
      exact mv_iret d_TrustDeskModel_within_18 rfl (by first | rfl | decide) ⟨Or.inl ⟨by omega, rfl⟩, rfl, rfl⟩
theorem d_TrustDeskModel_fund_26 : decode kY_TrustDeskModel_fund.2.1 26 = .ok (.ifCond .eq 12, 3) := by decide +kernel
theorem d_TrustDeskModel_fund_29 : decode kY_TrustDeskModel_fund.2.1 29 = .ok (.aload_n 0, 1) := by decide +kernel
theorem d_TrustDeskModel_fund_30 : decode kY_TrustDeskModel_fund.2.1 30 = .ok (.getfield 415, 3) := by decide +kernel
theorem f_TrustDeskModel_415_13 : mj_fl "TrustDeskModel" 415 13 32 := ⟨kR_TrustDeskModel, kF_TrustDeskModel, 72, "TrustDeskModel", rfl, kg_13, by decide, (mj_in1 (List.mem_of_getElem? (i := 1422) (by decide +kernel)) rfl), Or.inl rfl⟩
theorem d_TrustDeskModel_fund_33 : decode kY_TrustDeskModel_fund.2.1 33 = .ok (.bipush 12, 2) := by decide +kernel
theorem d_TrustDeskModel_fund_35 : decode kY_TrustDeskModel_fund.2.1 35 = .ok (.if_icmp .ne 5, 3) := by decide +kernel
theorem d_TrustDeskModel_fund_40 : decode kY_TrustDeskModel_fund.2.1 40 = .ok (.aload_n 0, 1) := by decide +kernel
theorem d_TrustDeskModel_fund_41 : decode kY_TrustDeskModel_fund.2.1 41 = .ok (.iconst 0, 1) := by decide +kernel
theorem d_TrustDeskModel_fund_42 : decode kY_TrustDeskModel_fund.2.1 42 = .ok (.invokevirtual 381, 3) := by decide +kernel
theorem c_TrustDeskModel_next_1 {g : mj_G} {l : Launch} {d nx : Nat} {M : mj_M} (h_99 : M 99 = some (.inr (13, [.int 0, .int 0, .int 0, .ref 100, .ref 101, .ref 102, .ref 103, .ref 104, .ref 105, .ref 106, .ref 107, .ref 108, .ref 109, .ref 110, .int 0, .int 0, .int 0, .int 0, .int 0, .int 0, .int 0, .int (-1), .int 0, .int 0, .int 0, .ref 111, .ref 112, .int 0, .ref 113, .ref 114, .ref 115, .int 0, .int 0, .ref 116, .ref 117, .ref 118, .ref 119, .ref 120, .ref 121, .ref 122, .ref 123, .ref 124, .ref 125, .ref 126, .ref 127, .ref 128, .ref 129, .ref 130, .ref 131, .int 0, .ref 132, .int 0, .ref 133, .int 0, .ref 134, .ref 135, .ref 136, .ref 137, .ref 138, .ref 139, .ref 140, .ref 141, .ref 142, .ref 143, .ref 144, .ref 145, .ref 146, .int 0, .long 0, .int 0, .int 0, .ref 147]))) : mj_Met g l kY_TrustDeskModel_next d [.ref 99] M nx 0 0 (mj_E1 none (mj_up (mj_up M 99 (.inr (13, [.int 0, .int 0, .int 0, .ref 100, .ref 101, .ref 102, .ref 103, .ref 104, .ref 105, .ref 106, .ref 107, .ref 108, .ref 109, .ref 110, .int 0, .int 0, .int 0, .int 0, .int 0, .int 0, .int 0, .int (-1), .int 0, .int 0, .int 0, .ref 111, .ref 112, .int 0, .ref 113, .ref 114, .ref 115, .int 0, .int 0, .ref 116, .ref 117, .ref 118, .ref 119, .ref 120, .ref 121, .ref 122, .ref 123, .ref 124, .ref 125, .ref 126, .ref 127, .ref 128, .ref 129, .ref 130, .ref 131, .int 0, .ref 132, .int 0, .ref 133, .int 0, .ref 134, .ref 135, .ref 136, .ref 137, .ref 138, .ref 139, .ref 140, .ref 141, .ref 142, .ref 143, .ref 144, .ref 145, .ref 146, .int 0, .long 0, .int 0, .int 0, .ref 147]))) 99 (.inr (13, [.int 0, .int 0, .int 0, .ref 100, .ref 101, .ref 102, .ref 103, .ref 104, .ref 105, .ref 106, .ref 107, .ref 108, .ref 109, .ref 110, .int 0, .int 0, .int 0, .int 0, .int 0, .int 0, .int 0, .int (-1), .int 0, .int 0, .int 0, .ref 111, .ref 112, .int 0, .ref 113, .ref 114, .ref 115, .int 0, .int 0, .ref 116, .ref 117, .ref 118, .ref 119, .ref 120, .ref 121, .ref 122, .ref 123, .ref 124, .ref 125, .ref 126, .ref 127, .ref 128, .ref 129, .ref 130, .ref 131, .int 0, .ref 132, .int 0, .ref 133, .int 0, .ref 134, .ref 135, .ref 136, .ref 137, .ref 138, .ref 139, .ref 140, .ref 141, .ref 142, .ref 143, .ref 144, .ref 145, .ref 146, .int 0, .long 0, .int 0, .int 0, .ref 147]))) nx) := by
  refine mj_enter (by decide) (Nat.le_of_ble_eq_true rfl) ?_
  refine mv_aload_n d_TrustDeskModel_next_0 rfl rfl ?_
  refine mv_get d_TrustDeskModel_next_1 f_TrustDeskModel_192_13 h_99 rfl ?_
  refine mv_aload_n d_TrustDeskModel_next_4 rfl rfl ?_
  refine mv_get d_TrustDeskModel_next_5 f_TrustDeskModel_189_13 h_99 rfl ?_
  refine mv_icmp_ge_t (tgt := 52) d_TrustDeskModel_next_8 (by decide) (by decide) ?_
  refine mv_aload_n d_TrustDeskModel_next_52 rfl rfl ?_
  refine mv_aload_n d_TrustDeskModel_next_53 rfl rfl ?_
  refine mv_get d_TrustDeskModel_next_54 f_TrustDeskModel_192_13 h_99 rfl ?_
  refine mv_put (fs' := [.int 0, .int 0, .int 0, .ref 100, .ref 101, .ref 102, .ref 103, .ref 104, .ref 105, .ref 106, .ref 107, .ref 108, .ref 109, .ref 110, .int 0, .int 0, .int 0, .int 0, .int 0, .int 0, .int 0, .int (-1), .int 0, .int 0, .int 0, .ref 111, .ref 112, .int 0, .ref 113, .ref 114, .ref 115, .int 0, .int 0, .ref 116, .ref 117, .ref 118, .ref 119, .ref 120, .ref 121, .ref 122, .ref 123, .ref 124, .ref 125, .ref 126, .ref 127, .ref 128, .ref 129, .ref 130, .ref 131, .int 0, .ref 132, .int 0, .ref 133, .int 0, .ref 134, .ref 135, .ref 136, .ref 137, .ref 138, .ref 139, .ref 140, .ref 141, .ref 142, .ref 143, .ref 144, .ref 145, .ref 146, .int 0, .long 0, .int 0, .int 0, .ref 147]) d_TrustDeskModel_next_57 p_TrustDeskModel_195_13 h_99 (Nat.le_of_ble_eq_true rfl) rfl rfl rfl ?_
  refine mv_aload_n d_TrustDeskModel_next_60 rfl rfl ?_
  refine mv_get d_TrustDeskModel_next_61 f_TrustDeskModel_192_13 (mj_up_self _ _ _) rfl ?_
  refine mv_aload_n d_TrustDeskModel_next_64 rfl rfl ?_
  refine mv_get d_TrustDeskModel_next_65 f_TrustDeskModel_189_13 (mj_up_self _ _ _) rfl ?_
  refine mv_icmp_lt_f (tgt := 77) d_TrustDeskModel_next_68 (by decide) (by decide) ?_
  refine mv_aload_n d_TrustDeskModel_next_71 rfl rfl ?_
  refine mv_iconst (v := 0) d_TrustDeskModel_next_72 (by decide) ?_
  refine mv_put (fs' := [.int 0, .int 0, .int 0, .ref 100, .ref 101, .ref 102, .ref 103, .ref 104, .ref 105, .ref 106, .ref 107, .ref 108, .ref 109, .ref 110, .int 0, .int 0, .int 0, .int 0, .int 0, .int 0, .int 0, .int (-1), .int 0, .int 0, .int 0, .ref 111, .ref 112, .int 0, .ref 113, .ref 114, .ref 115, .int 0, .int 0, .ref 116, .ref 117, .ref 118, .ref 119, .ref 120, .ref 121, .ref 122, .ref 123, .ref 124, .ref 125, .ref 126, .ref 127, .ref 128, .ref 129, .ref 130, .ref 131, .int 0, .ref 132, .int 0, .ref 133, .int 0, .ref 134, .ref 135, .ref 136, .ref 137, .ref 138, .ref 139, .ref 140, .ref 141, .ref 142, .ref 143, .ref 144, .ref 145, .ref 146, .int 0, .long 0, .int 0, .int 0, .ref 147]) d_TrustDeskModel_next_73 p_TrustDeskModel_198_13 (mj_up_self _ _ _) (Nat.le_of_ble_eq_true rfl) rfl rfl rfl ?_
  exact mv_vret d_TrustDeskModel_next_76 rfl ⟨rfl, rfl, rfl⟩
theorem c_TrustDeskModel_starts_1 {g : mj_G} {l : Launch} {d nx : Nat} {M : mj_M} (h_99 : M 99 = some (.inr (13, [.int 0, .int 0, .int 0, .ref 100, .ref 101, .ref 102, .ref 103, .ref 104, .ref 105, .ref 106, .ref 107, .ref 108, .ref 109, .ref 110, .int 0, .int 0, .int 0, .int 0, .int 0, .int 0, .int 0, .int (-1), .int 0, .int 0, .int 0, .ref 111, .ref 112, .int 0, .ref 113, .ref 114, .ref 115, .int 0, .int 0, .ref 116, .ref 117, .ref 118, .ref 119, .ref 120, .ref 121, .ref 122, .ref 123, .ref 124, .ref 125, .ref 126, .ref 127, .ref 128, .ref 129, .ref 130, .ref 131, .int 0, .ref 132, .int 0, .ref 133, .int 0, .ref 134, .ref 135, .ref 136, .ref 137, .ref 138, .ref 139, .ref 140, .ref 141, .ref 142, .ref 143, .ref 144, .ref 145, .ref 146, .int 0, .long 0, .int 0, .int 0, .ref 147]))) (h_102 : M 102 = some (.inl (0, 45, .inl (fun _ => 0)))) (h_103 : M 103 = some (.inl (0, 45, .inl (fun _ => 0)))) : mj_Met g l kY_TrustDeskModel_starts (d + 1) [.ref 99, .int 0] M nx 0 0 (mj_E1 none (mj_up (mj_up (mj_up (mj_up (mj_up (mj_up (mj_up (mj_up (mj_up M 99 (.inr (13, [.int 0, .int 0, .int 0, .ref 100, .ref 101, .ref 102, .ref 103, .ref 104, .ref 105, .ref 106, .ref 107, .ref 108, .ref 109, .ref 110, .int 0, .int 0, .int 0, .int 0, .int 0, .int 0, .int 0, .int (-1), .int 0, .int 0, .int 0, .ref 111, .ref 112, .int 0, .ref 113, .ref 114, .ref 115, .int 0, .int 0, .ref 116, .ref 117, .ref 118, .ref 119, .ref 120, .ref 121, .ref 122, .ref 123, .ref 124, .ref 125, .ref 126, .ref 127, .ref 128, .ref 129, .ref 130, .ref 131, .int 0, .ref 132, .int 0, .ref 133, .int 0, .ref 134, .ref 135, .ref 136, .ref 137, .ref 138, .ref 139, .ref 140, .ref 141, .ref 142, .ref 143, .ref 144, .ref 145, .ref 146, .int 0, .long 0, .int 0, .int 0, .ref 147]))) 99 (.inr (13, [.int 0, .int 0, .int 0, .ref 100, .ref 101, .ref 102, .ref 103, .ref 104, .ref 105, .ref 106, .ref 107, .ref 108, .ref 109, .ref 110, .int 0, .int 0, .int 0, .int 0, .int 0, .int 0, .int 0, .int (-1), .int 0, .int 0, .int 0, .ref 111, .ref 112, .int 0, .ref 113, .ref 114, .ref 115, .int 0, .int 0, .ref 116, .ref 117, .ref 118, .ref 119, .ref 120, .ref 121, .ref 122, .ref 123, .ref 124, .ref 125, .ref 126, .ref 127, .ref 128, .ref 129, .ref 130, .ref 131, .int 0, .ref 132, .int 0, .ref 133, .int 0, .ref 134, .ref 135, .ref 136, .ref 137, .ref 138, .ref 139, .ref 140, .ref 141, .ref 142, .ref 143, .ref 144, .ref 145, .ref 146, .int 0, .long 0, .int 0, .int 0, .ref 147]))) 99 (.inr (13, [.int 0, .int 0, .int 0, .ref 100, .ref 101, .ref 102, .ref 103, .ref 104, .ref 105, .ref 106, .ref 107, .ref 108, .ref 109, .ref 110, .int 0, .int 0, .int 0, .int 0, .int 0, .int 0, .int 0, .int (-1), .int 0, .int 0, .int 0, .ref 111, .ref 112, .int 0, .ref 113, .ref 114, .ref 115, .int 0, .int 0, .ref 116, .ref 117, .ref 118, .ref 119, .ref 120, .ref 121, .ref 122, .ref 123, .ref 124, .ref 125, .ref 126, .ref 127, .ref 128, .ref 129, .ref 130, .ref 131, .int 0, .ref 132, .int 0, .ref 133, .int 0, .ref 134, .ref 135, .ref 136, .ref 137, .ref 138, .ref 139, .ref 140, .ref 141, .ref 142, .ref 143, .ref 144, .ref 145, .ref 146, .int 0, .long 0, .int 0, .int 0, .ref 147]))) 99 (.inr (13, [.int 0, .int 0, .int 0, .ref 100, .ref 101, .ref 102, .ref 103, .ref 104, .ref 105, .ref 106, .ref 107, .ref 108, .ref 109, .ref 110, .int 0, .int 0, .int 0, .int 0, .int 0, .int 0, .int 0, .int (-1), .int 0, .int 0, .int 0, .ref 111, .ref 112, .int 0, .ref 113, .ref 114, .ref 115, .int 0, .int 0, .ref 116, .ref 117, .ref 118, .ref 119, .ref 120, .ref 121, .ref 122, .ref 123, .ref 124, .ref 125, .ref 126, .ref 127, .ref 128, .ref 129, .ref 130, .ref 131, .int 0, .ref 132, .int 0, .ref 133, .int 0, .ref 134, .ref 135, .ref 136, .ref 137, .ref 138, .ref 139, .ref 140, .ref 141, .ref 142, .ref 143, .ref 144, .ref 145, .ref 146, .int 0, .long 0, .int 0, .int 0, .ref 147]))) 99 (.inr (13, [.int 0, .int 0, .int 0, .ref 100, .ref 101, .ref 102, .ref 103, .ref 104, .ref 105, .ref 106, .ref 107, .ref 108, .ref 109, .ref 110, .int 0, .int 0, .int 0, .int 0, .int 0, .int 0, .int 0, .int (-1), .int 0, .int 0, .int 0, .ref 111, .ref 112, .int 0, .ref 113, .ref 114, .ref 115, .int 0, .int 0, .ref 116, .ref 117, .ref 118, .ref 119, .ref 120, .ref 121, .ref 122, .ref 123, .ref 124, .ref 125, .ref 126, .ref 127, .ref 128, .ref 129, .ref 130, .ref 131, .int 0, .ref 132, .int 0, .ref 133, .int 0, .ref 134, .ref 135, .ref 136, .ref 137, .ref 138, .ref 139, .ref 140, .ref 141, .ref 142, .ref 143, .ref 144, .ref 145, .ref 146, .int 0, .long 0, .int 0, .int 0, .ref 147]))) 102 (.inl (0, 45, .inl (upd (fun _ => 0) 44 0)))) 103 (.inl (0, 45, .inl (upd (fun _ => 0) 44 0)))) 99 (.inr (13, [.int 0, .int 0, .int 0, .ref 100, .ref 101, .ref 102, .ref 103, .ref 104, .ref 105, .ref 106, .ref 107, .ref 108, .ref 109, .ref 110, .int 0, .int 0, .int 0, .int 0, .int 0, .int 0, .int 0, .int (-1), .int 0, .int 0, .int 0, .ref 111, .ref 112, .int 0, .ref 113, .ref 114, .ref 115, .int 0, .int 0, .ref 116, .ref 117, .ref 118, .ref 119, .ref 120, .ref 121, .ref 122, .ref 123, .ref 124, .ref 125, .ref 126, .ref 127, .ref 128, .ref 129, .ref 130, .ref 131, .int 0, .ref 132, .int 0, .ref 133, .int 0, .ref 134, .ref 135, .ref 136, .ref 137, .ref 138, .ref 139, .ref 140, .ref 141, .ref 142, .ref 143, .ref 144, .ref 145, .ref 146, .int 0, .long 0, .int 0, .int 0, .ref 147]))) 99 (.inr (13, [.int 0, .int 0, .int 0, .ref 100, .ref 101, .ref 102, .ref 103, .ref 104, .ref 105, .ref 106, .ref 107, .ref 108, .ref 109, .ref 110, .int 0, .int 0, .int 0, .int 0, .int 0, .int 0, .int 0, .int (-1), .int 0, .int 0, .int 0, .ref 111, .ref 112, .int 0, .ref 113, .ref 114, .ref 115, .int 0, .int 0, .ref 116, .ref 117, .ref 118, .ref 119, .ref 120, .ref 121, .ref 122, .ref 123, .ref 124, .ref 125, .ref 126, .ref 127, .ref 128, .ref 129, .ref 130, .ref 131, .int 0, .ref 132, .int 0, .ref 133, .int 0, .ref 134, .ref 135, .ref 136, .ref 137, .ref 138, .ref 139, .ref 140, .ref 141, .ref 142, .ref 143, .ref 144, .ref 145, .ref 146, .int 0, .long 0, .int 0, .int 0, .ref 147]))) nx) := by
  refine mj_enter (by decide) (Nat.le_of_ble_eq_true rfl) ?_
  refine mv_aload_n d_TrustDeskModel_starts_0 rfl rfl ?_
  refine mv_iload_n d_TrustDeskModel_starts_1 rfl rfl ?_
  refine mv_put (fs' := [.int 0, .int 0, .int 0, .ref 100, .ref 101, .ref 102, .ref 103, .ref 104, .ref 105, .ref 106, .ref 107, .ref 108, .ref 109, .ref 110, .int 0, .int 0, .int 0, .int 0, .int 0, .int 0, .int 0, .int (-1), .int 0, .int 0, .int 0, .ref 111, .ref 112, .int 0, .ref 113, .ref 114, .ref 115, .int 0, .int 0, .ref 116, .ref 117, .ref 118, .ref 119, .ref 120, .ref 121, .ref 122, .ref 123, .ref 124, .ref 125, .ref 126, .ref 127, .ref 128, .ref 129, .ref 130, .ref 131, .int 0, .ref 132, .int 0, .ref 133, .int 0, .ref 134, .ref 135, .ref 136, .ref 137, .ref 138, .ref 139, .ref 140, .ref 141, .ref 142, .ref 143, .ref 144, .ref 145, .ref 146, .int 0, .long 0, .int 0, .int 0, .ref 147]) d_TrustDeskModel_starts_2 p_TrustDeskModel_267_13 h_99 (Nat.le_of_ble_eq_true rfl) (by decide) (by decide) rfl ?_
  refine mv_aload_n d_TrustDeskModel_starts_5 rfl rfl ?_
  refine mv_iconst (v := 0) d_TrustDeskModel_starts_6 (by decide) ?_
  refine mv_put (fs' := [.int 0, .int 0, .int 0, .ref 100, .ref 101, .ref 102, .ref 103, .ref 104, .ref 105, .ref 106, .ref 107, .ref 108, .ref 109, .ref 110, .int 0, .int 0, .int 0, .int 0, .int 0, .int 0, .int 0, .int (-1), .int 0, .int 0, .int 0, .ref 111, .ref 112, .int 0, .ref 113, .ref 114, .ref 115, .int 0, .int 0, .ref 116, .ref 117, .ref 118, .ref 119, .ref 120, .ref 121, .ref 122, .ref 123, .ref 124, .ref 125, .ref 126, .ref 127, .ref 128, .ref 129, .ref 130, .ref 131, .int 0, .ref 132, .int 0, .ref 133, .int 0, .ref 134, .ref 135, .ref 136, .ref 137, .ref 138, .ref 139, .ref 140, .ref 141, .ref 142, .ref 143, .ref 144, .ref 145, .ref 146, .int 0, .long 0, .int 0, .int 0, .ref 147]) d_TrustDeskModel_starts_7 p_TrustDeskModel_224_13 (mj_up_self _ _ _) (Nat.le_of_ble_eq_true rfl) rfl rfl rfl ?_
  refine mv_aload_n d_TrustDeskModel_starts_10 rfl rfl ?_
  refine mv_iconst (v := 0) d_TrustDeskModel_starts_11 (by decide) ?_
  refine mv_put (fs' := [.int 0, .int 0, .int 0, .ref 100, .ref 101, .ref 102, .ref 103, .ref 104, .ref 105, .ref 106, .ref 107, .ref 108, .ref 109, .ref 110, .int 0, .int 0, .int 0, .int 0, .int 0, .int 0, .int 0, .int (-1), .int 0, .int 0, .int 0, .ref 111, .ref 112, .int 0, .ref 113, .ref 114, .ref 115, .int 0, .int 0, .ref 116, .ref 117, .ref 118, .ref 119, .ref 120, .ref 121, .ref 122, .ref 123, .ref 124, .ref 125, .ref 126, .ref 127, .ref 128, .ref 129, .ref 130, .ref 131, .int 0, .ref 132, .int 0, .ref 133, .int 0, .ref 134, .ref 135, .ref 136, .ref 137, .ref 138, .ref 139, .ref 140, .ref 141, .ref 142, .ref 143, .ref 144, .ref 145, .ref 146, .int 0, .long 0, .int 0, .int 0, .ref 147]) d_TrustDeskModel_starts_12 p_TrustDeskModel_192_13 (mj_up_self _ _ _) (Nat.le_of_ble_eq_true rfl) rfl rfl rfl ?_
  refine mv_aload_n d_TrustDeskModel_starts_15 rfl rfl ?_
  refine mv_iconst (v := 0) d_TrustDeskModel_starts_16 (by decide) ?_
  refine mv_put (fs' := [.int 0, .int 0, .int 0, .ref 100, .ref 101, .ref 102, .ref 103, .ref 104, .ref 105, .ref 106, .ref 107, .ref 108, .ref 109, .ref 110, .int 0, .int 0, .int 0, .int 0, .int 0, .int 0, .int 0, .int (-1), .int 0, .int 0, .int 0, .ref 111, .ref 112, .int 0, .ref 113, .ref 114, .ref 115, .int 0, .int 0, .ref 116, .ref 117, .ref 118, .ref 119, .ref 120, .ref 121, .ref 122, .ref 123, .ref 124, .ref 125, .ref 126, .ref 127, .ref 128, .ref 129, .ref 130, .ref 131, .int 0, .ref 132, .int 0, .ref 133, .int 0, .ref 134, .ref 135, .ref 136, .ref 137, .ref 138, .ref 139, .ref 140, .ref 141, .ref 142, .ref 143, .ref 144, .ref 145, .ref 146, .int 0, .long 0, .int 0, .int 0, .ref 147]) d_TrustDeskModel_starts_17 p_TrustDeskModel_276_13 (mj_up_self _ _ _) (Nat.le_of_ble_eq_true rfl) rfl rfl rfl ?_
  refine mv_aload_n d_TrustDeskModel_starts_20 rfl rfl ?_
  refine mv_iconst (v := 0) d_TrustDeskModel_starts_21 (by decide) ?_
  refine mv_put (fs' := [.int 0, .int 0, .int 0, .ref 100, .ref 101, .ref 102, .ref 103, .ref 104, .ref 105, .ref 106, .ref 107, .ref 108, .ref 109, .ref 110, .int 0, .int 0, .int 0, .int 0, .int 0, .int 0, .int 0, .int (-1), .int 0, .int 0, .int 0, .ref 111, .ref 112, .int 0, .ref 113, .ref 114, .ref 115, .int 0, .int 0, .ref 116, .ref 117, .ref 118, .ref 119, .ref 120, .ref 121, .ref 122, .ref 123, .ref 124, .ref 125, .ref 126, .ref 127, .ref 128, .ref 129, .ref 130, .ref 131, .int 0, .ref 132, .int 0, .ref 133, .int 0, .ref 134, .ref 135, .ref 136, .ref 137, .ref 138, .ref 139, .ref 140, .ref 141, .ref 142, .ref 143, .ref 144, .ref 145, .ref 146, .int 0, .long 0, .int 0, .int 0, .ref 147]) d_TrustDeskModel_starts_22 p_TrustDeskModel_321_13 (mj_up_self _ _ _) (Nat.le_of_ble_eq_true rfl) rfl rfl rfl ?_
  refine mv_aload_n d_TrustDeskModel_starts_25 rfl rfl ?_
  refine mv_get d_TrustDeskModel_starts_26 f_TrustDeskModel_20_13 (mj_up_self _ _ _) rfl ?_
  refine mv_bipush (v := 44) d_TrustDeskModel_starts_29 (by decide) ?_
  refine mv_iconst (v := 0) d_TrustDeskModel_starts_31 (by decide) ?_
  refine mv_iast (f' := (upd (fun _ => 0) 44 0)) d_TrustDeskModel_starts_32 ((mj_up_ne _ _ (Nat.ne_of_beq_eq_false rfl)).trans ((mj_up_ne _ _ (Nat.ne_of_beq_eq_false rfl)).trans ((mj_up_ne _ _ (Nat.ne_of_beq_eq_false rfl)).trans ((mj_up_ne _ _ (Nat.ne_of_beq_eq_false rfl)).trans ((mj_up_ne _ _ (Nat.ne_of_beq_eq_false rfl)).trans h_102))))) (by unfold vp_in; decide) rfl ?_
  refine mv_aload_n d_TrustDeskModel_starts_33 rfl rfl ?_
  refine mv_get d_TrustDeskModel_starts_34 f_TrustDeskModel_23_13 ((mj_up_ne _ _ (Nat.ne_of_beq_eq_false rfl)).trans (mj_up_self _ _ _)) rfl ?_
  refine mv_bipush (v := 44) d_TrustDeskModel_starts_37 (by decide) ?_
  refine mv_iconst (v := 0) d_TrustDeskModel_starts_39 (by decide) ?_
  refine mv_iast (f' := (upd (fun _ => 0) 44 0)) d_TrustDeskModel_starts_40 ((mj_up_ne _ _ (Nat.ne_of_beq_eq_false rfl)).trans ((mj_up_ne _ _ (Nat.ne_of_beq_eq_false rfl)).trans ((mj_up_ne _ _ (Nat.ne_of_beq_eq_false rfl)).trans ((mj_up_ne _ _ (Nat.ne_of_beq_eq_false rfl)).trans ((mj_up_ne _ _ (Nat.ne_of_beq_eq_false rfl)).trans ((mj_up_ne _ _ (Nat.ne_of_beq_eq_false rfl)).trans h_103)))))) (by unfold vp_in; decide) rfl ?_
  refine mv_aload_n d_TrustDeskModel_starts_41 rfl rfl ?_
  refine mv_callV_n (kc' := 0) (ks' := 0) [] [.ref 99] d_TrustDeskModel_starts_42 lV_TrustDeskModel_237 ((mj_up_ne _ _ (Nat.ne_of_beq_eq_false rfl)).trans ((mj_up_ne _ _ (Nat.ne_of_beq_eq_false rfl)).trans (mj_up_self _ _ _))) rfl (c_TrustDeskModel_next_1 (d := d) (h_99 := ((mj_up_ne _ _ (Nat.ne_of_beq_eq_false rfl)).trans ((mj_up_ne _ _ (Nat.ne_of_beq_eq_false rfl)).trans (mj_up_self _ _ _))))) rfl (Nat.le_of_ble_eq_true rfl) (Nat.le_of_ble_eq_true rfl) (Nat.le_of_ble_eq_true rfl) rfl ?_
  exact mv_vret d_TrustDeskModel_starts_45 rfl ⟨rfl, rfl, rfl⟩
theorem d_TrustDeskModel_fund_45 : decode kY_TrustDeskModel_fund.2.1 45 = .ok (.aload_n 0, 1) := by decide +kernel
theorem d_TrustDeskModel_fund_46 : decode kY_TrustDeskModel_fund.2.1 46 = .ok (.invokevirtual 230, 3) := by decide +kernel
theorem c_TrustDeskModel_isWell_1 {g : mj_G} {l : Launch} {d nx : Nat} {M : mj_M} (h_99 : M 99 = some (.inr (13, [.int 0, .int 0, .int 0, .ref 100, .ref 101, .ref 102, .ref 103, .ref 104, .ref 105, .ref 106, .ref 107, .ref 108, .ref 109, .ref 110, .int 0, .int 0, .int 0, .int 0, .int 0, .int 0, .int 0, .int (-1), .int 0, .int 0, .int 0, .ref 111, .ref 112, .int 0, .ref 113, .ref 114, .ref 115, .int 0, .int 0, .ref 116, .ref 117, .ref 118, .ref 119, .ref 120, .ref 121, .ref 122, .ref 123, .ref 124, .ref 125, .ref 126, .ref 127, .ref 128, .ref 129, .ref 130, .ref 131, .int 0, .ref 132, .int 0, .ref 133, .int 0, .ref 134, .ref 135, .ref 136, .ref 137, .ref 138, .ref 139, .ref 140, .ref 141, .ref 142, .ref 143, .ref 144, .ref 145, .ref 146, .int 0, .long 0, .int 0, .int 0, .ref 147]))) : mj_Met g l kY_TrustDeskModel_isWell d [.ref 99] M nx 0 0 (mj_E1 (some (.int 1)) M nx) := by
  refine mj_enter (by decide) (Nat.le_of_ble_eq_true rfl) ?_
  refine mv_aload_n d_TrustDeskModel_isWell_0 rfl rfl ?_
  refine mv_get d_TrustDeskModel_isWell_1 f_TrustDeskModel_224_13 h_99 rfl ?_
  refine mv_if_ne_f (tgt := 11) d_TrustDeskModel_isWell_4 (by decide) (by decide) ?_
  refine mv_iconst (v := 1) d_TrustDeskModel_isWell_7 (by decide) ?_
  refine mv_goto (tgt := 12) d_TrustDeskModel_isWell_8 (by decide) ?_
  exact mv_iret d_TrustDeskModel_isWell_12 rfl (by first | rfl | decide) ⟨rfl, rfl, rfl⟩
theorem d_TrustDeskModel_fund_49 : decode kY_TrustDeskModel_fund.2.1 49 = .ok (.ifCond .eq 17, 3) := by decide +kernel
theorem d_TrustDeskModel_fund_52 : decode kY_TrustDeskModel_fund.2.1 52 = .ok (.aload_n 0, 1) := by decide +kernel
theorem d_TrustDeskModel_fund_53 : decode kY_TrustDeskModel_fund.2.1 53 = .ok (.getfield 198, 3) := by decide +kernel
theorem d_TrustDeskModel_fund_56 : decode kY_TrustDeskModel_fund.2.1 56 = .ok (.ifCond .eq 10, 3) := by decide +kernel
theorem d_TrustDeskModel_fund_66 : decode kY_TrustDeskModel_fund.2.1 66 = .ok (.bipush 20, 2) := by decide +kernel
theorem d_TrustDeskModel_fund_68 : decode kY_TrustDeskModel_fund.2.1 68 = .ok (.aload_n 0, 1) := by decide +kernel
theorem d_TrustDeskModel_fund_69 : decode kY_TrustDeskModel_fund.2.1 69 = .ok (.getfield 415, 3) := by decide +kernel
theorem d_TrustDeskModel_fund_72 : decode kY_TrustDeskModel_fund.2.1 72 = .ok (.iadd, 1) := by decide +kernel
theorem d_TrustDeskModel_fund_73 : decode kY_TrustDeskModel_fund.2.1 73 = .ok (.istore_n 3, 1) := by decide +kernel
theorem d_TrustDeskModel_fund_74 : decode kY_TrustDeskModel_fund.2.1 74 = .ok (.aload_n 0, 1) := by decide +kernel
theorem d_TrustDeskModel_fund_75 : decode kY_TrustDeskModel_fund.2.1 75 = .ok (.iload_n 3, 1) := by decide +kernel
theorem d_TrustDeskModel_fund_76 : decode kY_TrustDeskModel_fund.2.1 76 = .ok (.invokevirtual 388, 3) := by decide +kernel
theorem c_TrustDeskModel_stops_1 {g : mj_G} {l : Launch} {d nx : Nat} {M : mj_M} (h_99 : M 99 = some (.inr (13, [.int 0, .int 0, .int 0, .ref 100, .ref 101, .ref 102, .ref 103, .ref 104, .ref 105, .ref 106, .ref 107, .ref 108, .ref 109, .ref 110, .int 0, .int 0, .int 0, .int 0, .int 0, .int 0, .int 0, .int (-1), .int 0, .int 0, .int 0, .ref 111, .ref 112, .int 0, .ref 113, .ref 114, .ref 115, .int 0, .int 0, .ref 116, .ref 117, .ref 118, .ref 119, .ref 120, .ref 121, .ref 122, .ref 123, .ref 124, .ref 125, .ref 126, .ref 127, .ref 128, .ref 129, .ref 130, .ref 131, .int 0, .ref 132, .int 0, .ref 133, .int 0, .ref 134, .ref 135, .ref 136, .ref 137, .ref 138, .ref 139, .ref 140, .ref 141, .ref 142, .ref 143, .ref 144, .ref 145, .ref 146, .int 0, .long 0, .int 0, .int 0, .ref 147]))) (h_102 : M 102 = some (.inl (0, 45, .inl (upd (fun _ => 0) 44 0)))) (h_103 : M 103 = some (.inl (0, 45, .inl (upd (fun _ => 0) 44 0)))) : mj_Met g l kY_TrustDeskModel_stops (d + 1) [.ref 99, .int 20] M nx 0 0 (mj_E1 (some (.int 0)) (mj_up (mj_up (mj_up (mj_up M 99 (.inr (13, [.int 0, .int 0, .int 0, .ref 100, .ref 101, .ref 102, .ref 103, .ref 104, .ref 105, .ref 106, .ref 107, .ref 108, .ref 109, .ref 110, .int 0, .int 0, .int 0, .int 0, .int 0, .int 0, .int 0, .int (-1), .int 0, .int 0, .int 0, .ref 111, .ref 112, .int 0, .ref 113, .ref 114, .ref 115, .int 0, .int 0, .ref 116, .ref 117, .ref 118, .ref 119, .ref 120, .ref 121, .ref 122, .ref 123, .ref 124, .ref 125, .ref 126, .ref 127, .ref 128, .ref 129, .ref 130, .ref 131, .int 0, .ref 132, .int 0, .ref 133, .int 0, .ref 134, .ref 135, .ref 136, .ref 137, .ref 138, .ref 139, .ref 140, .ref 141, .ref 142, .ref 143, .ref 144, .ref 145, .ref 146, .int 0, .long 0, .int 0, .int 0, .ref 147]))) 99 (.inr (13, [.int 0, .int 0, .int 0, .ref 100, .ref 101, .ref 102, .ref 103, .ref 104, .ref 105, .ref 106, .ref 107, .ref 108, .ref 109, .ref 110, .int 0, .int 0, .int 0, .int 0, .int 0, .int 0, .int 0, .int (-1), .int 0, .int 0, .int 0, .ref 111, .ref 112, .int 0, .ref 113, .ref 114, .ref 115, .int 0, .int 0, .ref 116, .ref 117, .ref 118, .ref 119, .ref 120, .ref 121, .ref 122, .ref 123, .ref 124, .ref 125, .ref 126, .ref 127, .ref 128, .ref 129, .ref 130, .ref 131, .int 0, .ref 132, .int 0, .ref 133, .int 0, .ref 134, .ref 135, .ref 136, .ref 137, .ref 138, .ref 139, .ref 140, .ref 141, .ref 142, .ref 143, .ref 144, .ref 145, .ref 146, .int 0, .long 0, .int 0, .int 0, .ref 147]))) 102 (.inl (0, 45, .inl (upd (upd (fun _ => 0) 44 0) 20 0)))) 103 (.inl (0, 45, .inl (upd (upd (fun _ => 0) 44 0) 20 0)))) nx) := by
  refine mj_enter (by decide) (Nat.le_of_ble_eq_true rfl) ?_
  refine mv_aload_n d_TrustDeskModel_stops_0 rfl rfl ?_
  refine mv_iconst (v := 0) d_TrustDeskModel_stops_1 (by decide) ?_
  refine mv_put (fs' := [.int 0, .int 0, .int 0, .ref 100, .ref 101, .ref 102, .ref 103, .ref 104, .ref 105, .ref 106, .ref 107, .ref 108, .ref 109, .ref 110, .int 0, .int 0, .int 0, .int 0, .int 0, .int 0, .int 0, .int (-1), .int 0, .int 0, .int 0, .ref 111, .ref 112, .int 0, .ref 113, .ref 114, .ref 115, .int 0, .int 0, .ref 116, .ref 117, .ref 118, .ref 119, .ref 120, .ref 121, .ref 122, .ref 123, .ref 124, .ref 125, .ref 126, .ref 127, .ref 128, .ref 129, .ref 130, .ref 131, .int 0, .ref 132, .int 0, .ref 133, .int 0, .ref 134, .ref 135, .ref 136, .ref 137, .ref 138, .ref 139, .ref 140, .ref 141, .ref 142, .ref 143, .ref 144, .ref 145, .ref 146, .int 0, .long 0, .int 0, .int 0, .ref 147]) d_TrustDeskModel_stops_2 p_TrustDeskModel_189_13 h_99 (Nat.le_of_ble_eq_true rfl) rfl rfl rfl ?_
  refine mv_aload_n d_TrustDeskModel_stops_5 rfl rfl ?_
  refine mv_aload_n d_TrustDeskModel_stops_6 rfl rfl ?_
  refine mv_callV_s (kc' := 0) (ks' := 0) [] [.ref 99, .ref 99] d_TrustDeskModel_stops_7 lV_TrustDeskModel_230 (mj_up_self _ _ _) rfl (c_TrustDeskModel_isWell_1 (d := d) (h_99 := (mj_up_self _ _ _))) rfl (Nat.le_of_ble_eq_true rfl) (Nat.le_of_ble_eq_true rfl) (Nat.le_of_ble_eq_true rfl) rfl ?_
  refine mv_if_eq_f (tgt := 17) d_TrustDeskModel_stops_10 (by decide) (by decide) ?_
  refine mv_iconst (v := (-1)) d_TrustDeskModel_stops_13 (by decide) ?_
  refine mv_goto (tgt := 21) d_TrustDeskModel_stops_14 (by decide) ?_
  refine mv_put (fs' := [.int 0, .int 0, .int 0, .ref 100, .ref 101, .ref 102, .ref 103, .ref 104, .ref 105, .ref 106, .ref 107, .ref 108, .ref 109, .ref 110, .int 0, .int 0, .int 0, .int 0, .int 0, .int 0, .int 0, .int (-1), .int 0, .int 0, .int 0, .ref 111, .ref 112, .int 0, .ref 113, .ref 114, .ref 115, .int 0, .int 0, .ref 116, .ref 117, .ref 118, .ref 119, .ref 120, .ref 121, .ref 122, .ref 123, .ref 124, .ref 125, .ref 126, .ref 127, .ref 128, .ref 129, .ref 130, .ref 131, .int 0, .ref 132, .int 0, .ref 133, .int 0, .ref 134, .ref 135, .ref 136, .ref 137, .ref 138, .ref 139, .ref 140, .ref 141, .ref 142, .ref 143, .ref 144, .ref 145, .ref 146, .int 0, .long 0, .int 0, .int 0, .ref 147]) d_TrustDeskModel_stops_21 p_TrustDeskModel_48_13 (mj_up_self _ _ _) (Nat.le_of_ble_eq_true rfl) rfl rfl rfl ?_
  refine mv_aload_n d_TrustDeskModel_stops_24 rfl rfl ?_
  refine mv_callV_s (kc' := 0) (ks' := 0) [] [.ref 99] d_TrustDeskModel_stops_25 lV_TrustDeskModel_230 (mj_up_self _ _ _) rfl (c_TrustDeskModel_isWell_1 (d := d) (h_99 := (mj_up_self _ _ _))) rfl (Nat.le_of_ble_eq_true rfl) (Nat.le_of_ble_eq_true rfl) (Nat.le_of_ble_eq_true rfl) rfl ?_
  refine mv_if_ne_t (tgt := 38) d_TrustDeskModel_stops_28 (by decide) (by decide) ?_
  refine mv_aload_n d_TrustDeskModel_stops_38 rfl rfl ?_
  refine mv_get d_TrustDeskModel_stops_39 f_TrustDeskModel_20_13 (mj_up_self _ _ _) rfl ?_
  refine mv_iload_n d_TrustDeskModel_stops_42 rfl rfl ?_
  refine mv_aload_n d_TrustDeskModel_stops_43 rfl rfl ?_
  refine mv_get d_TrustDeskModel_stops_44 f_TrustDeskModel_20_13 (mj_up_self _ _ _) rfl ?_
  refine mv_bipush (v := 44) d_TrustDeskModel_stops_47 (by decide) ?_
  refine mv_iald (v := 0) d_TrustDeskModel_stops_49 ((mj_up_ne _ _ (Nat.ne_of_beq_eq_false rfl)).trans ((mj_up_ne _ _ (Nat.ne_of_beq_eq_false rfl)).trans h_102)) (by unfold vp_in; decide) rfl ?_
  refine mv_iast (f' := (upd (upd (fun _ => 0) 44 0) 20 0)) d_TrustDeskModel_stops_50 ((mj_up_ne _ _ (Nat.ne_of_beq_eq_false rfl)).trans ((mj_up_ne _ _ (Nat.ne_of_beq_eq_false rfl)).trans h_102)) (by unfold vp_in; decide) rfl ?_
  refine mv_aload_n d_TrustDeskModel_stops_51 rfl rfl ?_
  refine mv_get d_TrustDeskModel_stops_52 f_TrustDeskModel_23_13 ((mj_up_ne _ _ (Nat.ne_of_beq_eq_false rfl)).trans (mj_up_self _ _ _)) rfl ?_
  refine mv_iload_n d_TrustDeskModel_stops_55 rfl rfl ?_
  refine mv_aload_n d_TrustDeskModel_stops_56 rfl rfl ?_
  refine mv_get d_TrustDeskModel_stops_57 f_TrustDeskModel_23_13 ((mj_up_ne _ _ (Nat.ne_of_beq_eq_false rfl)).trans (mj_up_self _ _ _)) rfl ?_
  refine mv_bipush (v := 44) d_TrustDeskModel_stops_60 (by decide) ?_
  refine mv_iald (v := 0) d_TrustDeskModel_stops_62 ((mj_up_ne _ _ (Nat.ne_of_beq_eq_false rfl)).trans ((mj_up_ne _ _ (Nat.ne_of_beq_eq_false rfl)).trans ((mj_up_ne _ _ (Nat.ne_of_beq_eq_false rfl)).trans h_103))) (by unfold vp_in; decide) rfl ?_
  refine mv_iast (f' := (upd (upd (fun _ => 0) 44 0) 20 0)) d_TrustDeskModel_stops_63 ((mj_up_ne _ _ (Nat.ne_of_beq_eq_false rfl)).trans ((mj_up_ne _ _ (Nat.ne_of_beq_eq_false rfl)).trans ((mj_up_ne _ _ (Nat.ne_of_beq_eq_false rfl)).trans h_103))) (by unfold vp_in; decide) rfl ?_
  refine mv_iconst (v := 0) d_TrustDeskModel_stops_64 (by decide) ?_
  refine mv_istore_n (lv' := [(2, .int 0), (0, .ref 99), (1, .int 20)]) d_TrustDeskModel_stops_65 rfl (by decide) rfl ?_
  refine mv_iload_n d_TrustDeskModel_stops_66 rfl rfl ?_
  refine mv_aload_n d_TrustDeskModel_stops_67 rfl rfl ?_
  refine mv_get d_TrustDeskModel_stops_68 f_TrustDeskModel_20_13 ((mj_up_ne _ _ (Nat.ne_of_beq_eq_false rfl)).trans ((mj_up_ne _ _ (Nat.ne_of_beq_eq_false rfl)).trans (mj_up_self _ _ _))) rfl ?_
  refine mv_bipush (v := 44) d_TrustDeskModel_stops_71 (by decide) ?_
  refine mv_iald (v := 0) d_TrustDeskModel_stops_73 ((mj_up_ne _ _ (Nat.ne_of_beq_eq_false rfl)).trans (mj_up_self _ _ _)) (by unfold vp_in; decide) rfl ?_
  refine mv_icmp_ge_t (tgt := 105) d_TrustDeskModel_stops_74 (by decide) (by decide) ?_
  refine mv_iconst (v := 0) d_TrustDeskModel_stops_105 (by decide) ?_
  refine mv_istore_n (lv' := [(2, .int 0), (0, .ref 99), (1, .int 20)]) d_TrustDeskModel_stops_106 rfl (by decide) rfl ?_
  refine mv_iload_n d_TrustDeskModel_stops_107 rfl rfl ?_
  refine mv_aload_n d_TrustDeskModel_stops_108 rfl rfl ?_
  refine mv_get d_TrustDeskModel_stops_109 f_TrustDeskModel_23_13 ((mj_up_ne _ _ (Nat.ne_of_beq_eq_false rfl)).trans ((mj_up_ne _ _ (Nat.ne_of_beq_eq_false rfl)).trans (mj_up_self _ _ _))) rfl ?_
  refine mv_bipush (v := 44) d_TrustDeskModel_stops_112 (by decide) ?_
  refine mv_iald (v := 0) d_TrustDeskModel_stops_114 (mj_up_self _ _ _) (by unfold vp_in; decide) rfl ?_
  refine mv_icmp_ge_t (tgt := 216) d_TrustDeskModel_stops_115 (by decide) (by decide) ?_
  refine mv_iconst (v := 0) d_TrustDeskModel_stops_216 (by decide) ?_
  exact mv_iret d_TrustDeskModel_stops_217 rfl (by first | rfl | decide) ⟨rfl, rfl, rfl⟩
theorem d_TrustDeskModel_fund_79 : decode kY_TrustDeskModel_fund.2.1 79 = .ok (.istore 4, 2) := by decide +kernel
theorem d_TrustDeskModel_fund_81 : decode kY_TrustDeskModel_fund.2.1 81 = .ok (.iload 4, 2) := by decide +kernel
theorem d_TrustDeskModel_fund_83 : decode kY_TrustDeskModel_fund.2.1 83 = .ok (.ifCond .ge 6, 3) := by decide +kernel
theorem d_TrustDeskModel_fund_89 : decode kY_TrustDeskModel_fund.2.1 89 = .ok (.aload_n 0, 1) := by decide +kernel
theorem d_TrustDeskModel_fund_90 : decode kY_TrustDeskModel_fund.2.1 90 = .ok (.getfield 415, 3) := by decide +kernel
theorem d_TrustDeskModel_fund_93 : decode kY_TrustDeskModel_fund.2.1 93 = .ok (.istore 5, 2) := by decide +kernel
theorem d_TrustDeskModel_fund_95 : decode kY_TrustDeskModel_fund.2.1 95 = .ok (.aload_n 0, 1) := by decide +kernel
theorem d_TrustDeskModel_fund_96 : decode kY_TrustDeskModel_fund.2.1 96 = .ok (.getfield 66, 3) := by decide +kernel
theorem f_TrustDeskModel_66_13 : mj_fl "TrustDeskModel" 66 13 33 := ⟨kR_TrustDeskModel, kF_TrustDeskModel, 72, "TrustDeskModel", rfl, kg_13, by decide, (mj_in1 (List.mem_of_getElem? (i := 1423) (by decide +kernel)) rfl), Or.inl rfl⟩
theorem d_TrustDeskModel_fund_99 : decode kY_TrustDeskModel_fund.2.1 99 = .ok (.iload 5, 2) := by decide +kernel
theorem d_TrustDeskModel_fund_101 : decode kY_TrustDeskModel_fund.2.1 101 = .ok (.iload_n 1, 1) := by decide +kernel
theorem d_TrustDeskModel_fund_102 : decode kY_TrustDeskModel_fund.2.1 102 = .ok (.iastore, 1) := by decide +kernel
theorem d_TrustDeskModel_fund_103 : decode kY_TrustDeskModel_fund.2.1 103 = .ok (.aload_n 0, 1) := by decide +kernel
theorem d_TrustDeskModel_fund_104 : decode kY_TrustDeskModel_fund.2.1 104 = .ok (.getfield 69, 3) := by decide +kernel
theorem f_TrustDeskModel_69_13 : mj_fl "TrustDeskModel" 69 13 34 := ⟨kR_TrustDeskModel, kF_TrustDeskModel, 72, "TrustDeskModel", rfl, kg_13, by decide, (mj_in1 (List.mem_of_getElem? (i := 1424) (by decide +kernel)) rfl), Or.inl rfl⟩
theorem d_TrustDeskModel_fund_107 : decode kY_TrustDeskModel_fund.2.1 107 = .ok (.iload 5, 2) := by decide +kernel
theorem d_TrustDeskModel_fund_109 : decode kY_TrustDeskModel_fund.2.1 109 = .ok (.iload_n 2, 1) := by decide +kernel
theorem d_TrustDeskModel_fund_110 : decode kY_TrustDeskModel_fund.2.1 110 = .ok (.iastore, 1) := by decide +kernel
theorem d_TrustDeskModel_fund_111 : decode kY_TrustDeskModel_fund.2.1 111 = .ok (.aload_n 0, 1) := by decide +kernel
theorem d_TrustDeskModel_fund_112 : decode kY_TrustDeskModel_fund.2.1 112 = .ok (.getfield 72, 3) := by decide +kernel
theorem f_TrustDeskModel_72_13 : mj_fl "TrustDeskModel" 72 13 35 := ⟨kR_TrustDeskModel, kF_TrustDeskModel, 72, "TrustDeskModel", rfl, kg_13, by decide, (mj_in1 (List.mem_of_getElem? (i := 1425) (by decide +kernel)) rfl), Or.inl rfl⟩
theorem d_TrustDeskModel_fund_115 : decode kY_TrustDeskModel_fund.2.1 115 = .ok (.iload 5, 2) := by decide +kernel
theorem d_TrustDeskModel_fund_117 : decode kY_TrustDeskModel_fund.2.1 117 = .ok (.lconst 0, 1) := by decide +kernel
theorem d_TrustDeskModel_fund_118 : decode kY_TrustDeskModel_fund.2.1 118 = .ok (.lastore, 1) := by decide +kernel
theorem d_TrustDeskModel_fund_119 : decode kY_TrustDeskModel_fund.2.1 119 = .ok (.aload_n 0, 1) := by decide +kernel
theorem d_TrustDeskModel_fund_120 : decode kY_TrustDeskModel_fund.2.1 120 = .ok (.getfield 76, 3) := by decide +kernel
theorem f_TrustDeskModel_76_13 : mj_fl "TrustDeskModel" 76 13 36 := ⟨kR_TrustDeskModel, kF_TrustDeskModel, 72, "TrustDeskModel", rfl, kg_13, by decide, (mj_in1 (List.mem_of_getElem? (i := 1426) (by decide +kernel)) rfl), Or.inl rfl⟩
theorem d_TrustDeskModel_fund_123 : decode kY_TrustDeskModel_fund.2.1 123 = .ok (.iload 5, 2) := by decide +kernel
theorem d_TrustDeskModel_fund_125 : decode kY_TrustDeskModel_fund.2.1 125 = .ok (.iconst 0, 1) := by decide +kernel
theorem d_TrustDeskModel_fund_126 : decode kY_TrustDeskModel_fund.2.1 126 = .ok (.iastore, 1) := by decide +kernel
theorem d_TrustDeskModel_fund_127 : decode kY_TrustDeskModel_fund.2.1 127 = .ok (.aload_n 0, 1) := by decide +kernel
theorem d_TrustDeskModel_fund_128 : decode kY_TrustDeskModel_fund.2.1 128 = .ok (.getfield 79, 3) := by decide +kernel
theorem f_TrustDeskModel_79_13 : mj_fl "TrustDeskModel" 79 13 37 := ⟨kR_TrustDeskModel, kF_TrustDeskModel, 72, "TrustDeskModel", rfl, kg_13, by decide, (mj_in1 (List.mem_of_getElem? (i := 1427) (by decide +kernel)) rfl), Or.inl rfl⟩
theorem d_TrustDeskModel_fund_131 : decode kY_TrustDeskModel_fund.2.1 131 = .ok (.iload 5, 2) := by decide +kernel
theorem d_TrustDeskModel_fund_133 : decode kY_TrustDeskModel_fund.2.1 133 = .ok (.iconst (-1), 1) := by decide +kernel
theorem d_TrustDeskModel_fund_134 : decode kY_TrustDeskModel_fund.2.1 134 = .ok (.iastore, 1) := by decide +kernel
theorem d_TrustDeskModel_fund_135 : decode kY_TrustDeskModel_fund.2.1 135 = .ok (.aload_n 0, 1) := by decide +kernel
theorem d_TrustDeskModel_fund_136 : decode kY_TrustDeskModel_fund.2.1 136 = .ok (.getfield 82, 3) := by decide +kernel
theorem f_TrustDeskModel_82_13 : mj_fl "TrustDeskModel" 82 13 38 := ⟨kR_TrustDeskModel, kF_TrustDeskModel, 72, "TrustDeskModel", rfl, kg_13, by decide, (mj_in1 (List.mem_of_getElem? (i := 1428) (by decide +kernel)) rfl), Or.inl rfl⟩
theorem d_TrustDeskModel_fund_139 : decode kY_TrustDeskModel_fund.2.1 139 = .ok (.iload 5, 2) := by decide +kernel
theorem d_TrustDeskModel_fund_141 : decode kY_TrustDeskModel_fund.2.1 141 = .ok (.bipush 7, 2) := by decide +kernel
theorem d_TrustDeskModel_fund_143 : decode kY_TrustDeskModel_fund.2.1 143 = .ok (.iastore, 1) := by decide +kernel
theorem d_TrustDeskModel_fund_144 : decode kY_TrustDeskModel_fund.2.1 144 = .ok (.aload_n 0, 1) := by decide +kernel
theorem d_TrustDeskModel_fund_145 : decode kY_TrustDeskModel_fund.2.1 145 = .ok (.getfield 85, 3) := by decide +kernel
theorem f_TrustDeskModel_85_13 : mj_fl "TrustDeskModel" 85 13 39 := ⟨kR_TrustDeskModel, kF_TrustDeskModel, 72, "TrustDeskModel", rfl, kg_13, by decide, (mj_in1 (List.mem_of_getElem? (i := 1429) (by decide +kernel)) rfl), Or.inl rfl⟩
theorem d_TrustDeskModel_fund_148 : decode kY_TrustDeskModel_fund.2.1 148 = .ok (.iload 5, 2) := by decide +kernel
theorem d_TrustDeskModel_fund_150 : decode kY_TrustDeskModel_fund.2.1 150 = .ok (.iconst 1, 1) := by decide +kernel
theorem d_TrustDeskModel_fund_151 : decode kY_TrustDeskModel_fund.2.1 151 = .ok (.iastore, 1) := by decide +kernel
theorem d_TrustDeskModel_fund_152 : decode kY_TrustDeskModel_fund.2.1 152 = .ok (.iconst 0, 1) := by decide +kernel
theorem d_TrustDeskModel_fund_153 : decode kY_TrustDeskModel_fund.2.1 153 = .ok (.istore 6, 2) := by decide +kernel
theorem d_TrustDeskModel_fund_155 : decode kY_TrustDeskModel_fund.2.1 155 = .ok (.iload 6, 2) := by decide +kernel
theorem d_TrustDeskModel_fund_157 : decode kY_TrustDeskModel_fund.2.1 157 = .ok (.aload_n 0, 1) := by decide +kernel
theorem d_TrustDeskModel_fund_158 : decode kY_TrustDeskModel_fund.2.1 158 = .ok (.getfield 23, 3) := by decide +kernel
theorem d_TrustDeskModel_fund_161 : decode kY_TrustDeskModel_fund.2.1 161 = .ok (.iload_n 3, 1) := by decide +kernel
theorem d_TrustDeskModel_fund_162 : decode kY_TrustDeskModel_fund.2.1 162 = .ok (.iaload, 1) := by decide +kernel
theorem d_TrustDeskModel_fund_163 : decode kY_TrustDeskModel_fund.2.1 163 = .ok (.if_icmp .ge 111, 3) := by decide +kernel
theorem d_TrustDeskModel_fund_274 : decode kY_TrustDeskModel_fund.2.1 274 = .ok (.aload_n 0, 1) := by decide +kernel
theorem d_TrustDeskModel_fund_275 : decode kY_TrustDeskModel_fund.2.1 275 = .ok (.getfield 92, 3) := by decide +kernel
theorem f_TrustDeskModel_92_13 : mj_fl "TrustDeskModel" 92 13 41 := ⟨kR_TrustDeskModel, kF_TrustDeskModel, 72, "TrustDeskModel", rfl, kg_13, by decide, (mj_in1 (List.mem_of_getElem? (i := 1431) (by decide +kernel)) rfl), Or.inl rfl⟩
theorem d_TrustDeskModel_fund_278 : decode kY_TrustDeskModel_fund.2.1 278 = .ok (.bipush 12, 2) := by decide +kernel
theorem d_TrustDeskModel_fund_280 : decode kY_TrustDeskModel_fund.2.1 280 = .ok (.iload 5, 2) := by decide +kernel
theorem d_TrustDeskModel_fund_282 : decode kY_TrustDeskModel_fund.2.1 282 = .ok (.imul, 1) := by decide +kernel
theorem d_TrustDeskModel_fund_283 : decode kY_TrustDeskModel_fund.2.1 283 = .ok (.iload 5, 2) := by decide +kernel
theorem d_TrustDeskModel_fund_285 : decode kY_TrustDeskModel_fund.2.1 285 = .ok (.iadd, 1) := by decide +kernel
theorem d_TrustDeskModel_fund_286 : decode kY_TrustDeskModel_fund.2.1 286 = .ok (.ldc_w 432, 3) := by decide +kernel
theorem k_TrustDeskModel_432 : Cond.constant "TrustDeskModel" 432 1000000 ∈ mj_T := (mj_in1 (List.mem_of_getElem? (i := 1824) (by decide +kernel)) rfl)
theorem d_TrustDeskModel_fund_289 : decode kY_TrustDeskModel_fund.2.1 289 = .ok (.iastore, 1) := by decide +kernel
theorem d_TrustDeskModel_fund_290 : decode kY_TrustDeskModel_fund.2.1 290 = .ok (.aload_n 0, 1) := by decide +kernel
theorem d_TrustDeskModel_fund_291 : decode kY_TrustDeskModel_fund.2.1 291 = .ok (.dup, 1) := by decide +kernel
theorem d_TrustDeskModel_fund_292 : decode kY_TrustDeskModel_fund.2.1 292 = .ok (.getfield 415, 3) := by decide +kernel
theorem d_TrustDeskModel_fund_295 : decode kY_TrustDeskModel_fund.2.1 295 = .ok (.iconst 1, 1) := by decide +kernel
theorem d_TrustDeskModel_fund_296 : decode kY_TrustDeskModel_fund.2.1 296 = .ok (.iadd, 1) := by decide +kernel
theorem d_TrustDeskModel_fund_297 : decode kY_TrustDeskModel_fund.2.1 297 = .ok (.putfield 415, 3) := by decide +kernel
theorem p_TrustDeskModel_415_13 : mj_fp "TrustDeskModel" 415 13 32 (kt_TrustDeskModel 32) false := ⟨kR_TrustDeskModel, kF_TrustDeskModel, 72, "TrustDeskModel", kt_TrustDeskModel, rfl, kg_13, by decide, (mj_in1 (List.mem_of_getElem? (i := 1422) (by decide +kernel)) rfl), Or.inl rfl, kto_TrustDeskModel, kn_TrustDeskModel, rfl, rfl, fun h => by cases h⟩
theorem d_TrustDeskModel_fund_300 : decode kY_TrustDeskModel_fund.2.1 300 = .ok (.iload 5, 2) := by decide +kernel
theorem d_TrustDeskModel_fund_302 : decode kY_TrustDeskModel_fund.2.1 302 = .ok (.ireturn, 1) := by decide +kernel
theorem d_TrustDeskModel_fund_38 : decode kY_TrustDeskModel_fund.2.1 38 = .ok (.iconst (-1), 1) := by decide +kernel
theorem d_TrustDeskModel_fund_39 : decode kY_TrustDeskModel_fund.2.1 39 = .ok (.ireturn, 1) := by decide +kernel
theorem c_TrustDeskModel_fund_0 {g : mj_G} {l : Launch} {d nx : Nat} {M : mj_M} {x1 : Int32} {x2 : Int32} (h_99 : M 99 = some (.inr (13, [.int 0, .int 0, .int 0, .ref 100, .ref 101, .ref 102, .ref 103, .ref 104, .ref 105, .ref 106, .ref 107, .ref 108, .ref 109, .ref 110, .int 0, .int 0, .int 0, .int 0, .int 0, .int 0, .int 0, .int (-1), .int 0, .int 0, .int 0, .ref 111, .ref 112, .int 0, .ref 113, .ref 114, .ref 115, .int 0, .int 0, .ref 116, .ref 117, .ref 118, .ref 119, .ref 120, .ref 121, .ref 122, .ref 123, .ref 124, .ref 125, .ref 126, .ref 127, .ref 128, .ref 129, .ref 130, .ref 131, .int 0, .ref 132, .int 0, .ref 133, .int 0, .ref 134, .ref 135, .ref 136, .ref 137, .ref 138, .ref 139, .ref 140, .ref 141, .ref 142, .ref 143, .ref 144, .ref 145, .ref 146, .int 0, .long 0, .int 0, .int 0, .ref 147]))) (h_102 : M 102 = some (.inl (0, 45, .inl (fun _ => 0)))) (h_103 : M 103 = some (.inl (0, 45, .inl (fun _ => 0)))) (h_116 : M 116 = some (.inl (0, 12, .inl (fun _ => 0)))) (h_117 : M 117 = some (.inl (0, 12, .inl (fun _ => 0)))) (h_118 : M 118 = some (.inl (1, 12, .inr (.inl (fun _ => 0))))) (h_119 : M 119 = some (.inl (0, 12, .inl (fun _ => 0)))) (h_120 : M 120 = some (.inl (0, 12, .inl (fun _ => 0)))) (h_121 : M 121 = some (.inl (0, 12, .inl (fun _ => 0)))) (h_122 : M 122 = some (.inl (0, 12, .inl (fun _ => 0)))) (h_124 : M 124 = some (.inl (0, 144, .inl (fun _ => 0)))) : mj_Met g l kY_TrustDeskModel_fund (d + 2) [.ref 99, .int x1, .int x2] M nx 0 0 (mj_KP (some (.int (e_fund x1 x2))) M 0 0) := by
  refine mj_enter (by decide) (Nat.le_of_ble_eq_true rfl) ?_
  refine mv_aload_n d_TrustDeskModel_fund_0 rfl rfl ?_
  refine mv_iconst (v := 0) d_TrustDeskModel_fund_1 (by decide) ?_
  refine mv_put (fs' := [.int 0, .int 0, .int 0, .ref 100, .ref 101, .ref 102, .ref 103, .ref 104, .ref 105, .ref 106, .ref 107, .ref 108, .ref 109, .ref 110, .int 0, .int 0, .int 0, .int 0, .int 0, .int 0, .int 0, .int (-1), .int 0, .int 0, .int 0, .ref 111, .ref 112, .int 0, .ref 113, .ref 114, .ref 115, .int 0, .int 0, .ref 116, .ref 117, .ref 118, .ref 119, .ref 120, .ref 121, .ref 122, .ref 123, .ref 124, .ref 125, .ref 126, .ref 127, .ref 128, .ref 129, .ref 130, .ref 131, .int 0, .ref 132, .int 0, .ref 133, .int 0, .ref 134, .ref 135, .ref 136, .ref 137, .ref 138, .ref 139, .ref 140, .ref 141, .ref 142, .ref 143, .ref 144, .ref 145, .ref 146, .int 0, .long 0, .int 0, .int 0, .ref 147]) d_TrustDeskModel_fund_2 p_TrustDeskModel_1_13 h_99 (Nat.le_of_ble_eq_true rfl) rfl rfl rfl ?_
  refine mv_iload_n d_TrustDeskModel_fund_5 rfl rfl ?_
  refine mv_i2l (v := x1.toInt64) d_TrustDeskModel_fund_6 rfl ?_
  refine mv_lconst (v := 0) d_TrustDeskModel_fund_7 (by decide) ?_
  refine mv_ldc2 d_TrustDeskModel_fund_8 k_TrustDeskModel_421 ?_
  refine mv_callS_b (kc' := 0) (ks' := 0) [.long x1.toInt64, .long 0, .long 999] [.long 999, .long 0, .long x1.toInt64] d_TrustDeskModel_fund_11 lS_TrustDeskModel_169 (c_TrustDeskModel_within_4 (d := (d + 1)) (x0 := x1.toInt64)) rfl (Nat.le_of_ble_eq_true rfl) (Nat.le_of_ble_eq_true rfl) (Nat.le_of_ble_eq_true rfl) rfl (fun b1 => ?_) (fun b1 => ?_)
  · rw [mz_wide] at b1
    refine mv_if_eq_f (tgt := 38) d_TrustDeskModel_fund_14 (by decide) (by decide) ?_
    refine mv_iload_n d_TrustDeskModel_fund_17 rfl rfl ?_
    refine mv_i2l (v := x2.toInt64) d_TrustDeskModel_fund_18 rfl ?_
    refine mv_lconst (v := 0) d_TrustDeskModel_fund_19 (by decide) ?_
    refine mv_ldc2 d_TrustDeskModel_fund_20 k_TrustDeskModel_423 ?_
    refine mv_callS_b (kc' := 0) (ks' := 0) [.long x2.toInt64, .long 0, .long 99999] [.long 99999, .long 0, .long x2.toInt64] d_TrustDeskModel_fund_23 lS_TrustDeskModel_169 (c_TrustDeskModel_within_5 (d := (d + 1)) (x0 := x2.toInt64)) rfl (Nat.le_of_ble_eq_true rfl) (Nat.le_of_ble_eq_true rfl) (Nat.le_of_ble_eq_true rfl) rfl (fun b2 => ?_) (fun b2 => ?_)
    · rw [mz_wide] at b2
      refine mv_if_eq_f (tgt := 38) d_TrustDeskModel_fund_26 (by decide) (by decide) ?_
      refine mv_aload_n d_TrustDeskModel_fund_29 rfl rfl ?_
      refine mv_get d_TrustDeskModel_fund_30 f_TrustDeskModel_415_13 (mj_up_self _ _ _) rfl ?_
      refine mv_bipush (v := 12) d_TrustDeskModel_fund_33 (by decide) ?_
      refine mv_icmp_ne_t (tgt := 40) d_TrustDeskModel_fund_35 (by decide) (by decide) ?_
      refine mv_aload_n d_TrustDeskModel_fund_40 rfl rfl ?_
      refine mv_iconst (v := 0) d_TrustDeskModel_fund_41 (by decide) ?_
      refine mv_callV_n (kc' := 0) (ks' := 0) [.int 0] [.int 0, .ref 99] d_TrustDeskModel_fund_42 lV_TrustDeskModel_381 (mj_up_self _ _ _) rfl (c_TrustDeskModel_starts_1 (d := d) (h_99 := (mj_up_self _ _ _)) (h_102 := ((mj_up_ne _ _ (Nat.ne_of_beq_eq_false rfl)).trans h_102)) (h_103 := ((mj_up_ne _ _ (Nat.ne_of_beq_eq_false rfl)).trans h_103))) rfl (Nat.le_of_ble_eq_true rfl) (Nat.le_of_ble_eq_true rfl) (Nat.le_of_ble_eq_true rfl) rfl ?_
      refine mv_aload_n d_TrustDeskModel_fund_45 rfl rfl ?_
      refine mv_callV_s (kc' := 0) (ks' := 0) [] [.ref 99] d_TrustDeskModel_fund_46 lV_TrustDeskModel_230 (mj_up_self _ _ _) rfl (c_TrustDeskModel_isWell_1 (d := (d + 1)) (h_99 := (mj_up_self _ _ _))) rfl (Nat.le_of_ble_eq_true rfl) (Nat.le_of_ble_eq_true rfl) (Nat.le_of_ble_eq_true rfl) rfl ?_
      refine mv_if_eq_f (tgt := 66) d_TrustDeskModel_fund_49 (by decide) (by decide) ?_
      refine mv_aload_n d_TrustDeskModel_fund_52 rfl rfl ?_
      refine mv_get d_TrustDeskModel_fund_53 f_TrustDeskModel_198_13 (mj_up_self _ _ _) rfl ?_
      refine mv_if_eq_t (tgt := 66) d_TrustDeskModel_fund_56 (by decide) (by decide) ?_
      refine mv_bipush (v := 20) d_TrustDeskModel_fund_66 (by decide) ?_
      refine mv_aload_n d_TrustDeskModel_fund_68 rfl rfl ?_
      refine mv_get d_TrustDeskModel_fund_69 f_TrustDeskModel_415_13 (mj_up_self _ _ _) rfl ?_
      refine mv_iaddv (v := 20) d_TrustDeskModel_fund_72 (by decide) ?_
      refine mv_istore_n (lv' := [(3, .int 20), (0, .ref 99), (1, .int x1), (2, .int x2)]) d_TrustDeskModel_fund_73 rfl (by decide) rfl ?_
      refine mv_aload_n d_TrustDeskModel_fund_74 rfl rfl ?_
      refine mv_iload_n d_TrustDeskModel_fund_75 rfl rfl ?_
      refine mv_callV_s (kc' := 0) (ks' := 0) [.int 20] [.int 20, .ref 99] d_TrustDeskModel_fund_76 lV_TrustDeskModel_388 (mj_up_self _ _ _) rfl (c_TrustDeskModel_stops_1 (d := d) (h_99 := (mj_up_self _ _ _)) (h_102 := ((mj_up_ne _ _ (Nat.ne_of_beq_eq_false rfl)).trans ((mj_up_ne _ _ (Nat.ne_of_beq_eq_false rfl)).trans ((mj_up_ne _ _ (Nat.ne_of_beq_eq_false rfl)).trans (mj_up_self _ _ _))))) (h_103 := ((mj_up_ne _ _ (Nat.ne_of_beq_eq_false rfl)).trans ((mj_up_ne _ _ (Nat.ne_of_beq_eq_false rfl)).trans (mj_up_self _ _ _))))) rfl (Nat.le_of_ble_eq_true rfl) (Nat.le_of_ble_eq_true rfl) (Nat.le_of_ble_eq_true rfl) rfl ?_
      refine mv_istore (lv' := [(4, .int 0), (3, .int 20), (0, .ref 99), (1, .int x1), (2, .int x2)]) d_TrustDeskModel_fund_79 (by decide) rfl ?_
      refine mv_iload d_TrustDeskModel_fund_81 rfl ?_
      refine mv_if_ge_t (tgt := 89) d_TrustDeskModel_fund_83 (by decide) (by decide) ?_
      refine mv_aload_n d_TrustDeskModel_fund_89 rfl rfl ?_
      refine mv_get d_TrustDeskModel_fund_90 f_TrustDeskModel_415_13 ((mj_up_ne _ _ (Nat.ne_of_beq_eq_false rfl)).trans ((mj_up_ne _ _ (Nat.ne_of_beq_eq_false rfl)).trans (mj_up_self _ _ _))) rfl ?_
      refine mv_istore (lv' := [(5, .int 0), (4, .int 0), (3, .int 20), (0, .ref 99), (1, .int x1), (2, .int x2)]) d_TrustDeskModel_fund_93 (by decide) rfl ?_
      refine mv_aload_n d_TrustDeskModel_fund_95 rfl rfl ?_
      refine mv_get d_TrustDeskModel_fund_96 f_TrustDeskModel_66_13 ((mj_up_ne _ _ (Nat.ne_of_beq_eq_false rfl)).trans ((mj_up_ne _ _ (Nat.ne_of_beq_eq_false rfl)).trans (mj_up_self _ _ _))) rfl ?_
      refine mv_iload d_TrustDeskModel_fund_99 rfl ?_
      refine mv_iload_n d_TrustDeskModel_fund_101 rfl rfl ?_
      refine mv_iast (f' := (upd (fun _ => 0) 0 x1)) d_TrustDeskModel_fund_102 ((mj_up_ne _ _ (Nat.ne_of_beq_eq_false rfl)).trans ((mj_up_ne _ _ (Nat.ne_of_beq_eq_false rfl)).trans ((mj_up_ne _ _ (Nat.ne_of_beq_eq_false rfl)).trans ((mj_up_ne _ _ (Nat.ne_of_beq_eq_false rfl)).trans ((mj_up_ne _ _ (Nat.ne_of_beq_eq_false rfl)).trans ((mj_up_ne _ _ (Nat.ne_of_beq_eq_false rfl)).trans ((mj_up_ne _ _ (Nat.ne_of_beq_eq_false rfl)).trans ((mj_up_ne _ _ (Nat.ne_of_beq_eq_false rfl)).trans ((mj_up_ne _ _ (Nat.ne_of_beq_eq_false rfl)).trans ((mj_up_ne _ _ (Nat.ne_of_beq_eq_false rfl)).trans ((mj_up_ne _ _ (Nat.ne_of_beq_eq_false rfl)).trans ((mj_up_ne _ _ (Nat.ne_of_beq_eq_false rfl)).trans ((mj_up_ne _ _ (Nat.ne_of_beq_eq_false rfl)).trans ((mj_up_ne _ _ (Nat.ne_of_beq_eq_false rfl)).trans h_116)))))))))))))) (by unfold vp_in; decide) rfl ?_
      refine mv_aload_n d_TrustDeskModel_fund_103 rfl rfl ?_
      refine mv_get d_TrustDeskModel_fund_104 f_TrustDeskModel_69_13 ((mj_up_ne _ _ (Nat.ne_of_beq_eq_false rfl)).trans ((mj_up_ne _ _ (Nat.ne_of_beq_eq_false rfl)).trans ((mj_up_ne _ _ (Nat.ne_of_beq_eq_false rfl)).trans (mj_up_self _ _ _)))) rfl ?_
      refine mv_iload d_TrustDeskModel_fund_107 rfl ?_
      refine mv_iload_n d_TrustDeskModel_fund_109 rfl rfl ?_
      refine mv_iast (f' := (upd (fun _ => 0) 0 x2)) d_TrustDeskModel_fund_110 ((mj_up_ne _ _ (Nat.ne_of_beq_eq_false rfl)).trans ((mj_up_ne _ _ (Nat.ne_of_beq_eq_false rfl)).trans ((mj_up_ne _ _ (Nat.ne_of_beq_eq_false rfl)).trans ((mj_up_ne _ _ (Nat.ne_of_beq_eq_false rfl)).trans ((mj_up_ne _ _ (Nat.ne_of_beq_eq_false rfl)).trans ((mj_up_ne _ _ (Nat.ne_of_beq_eq_false rfl)).trans ((mj_up_ne _ _ (Nat.ne_of_beq_eq_false rfl)).trans ((mj_up_ne _ _ (Nat.ne_of_beq_eq_false rfl)).trans ((mj_up_ne _ _ (Nat.ne_of_beq_eq_false rfl)).trans ((mj_up_ne _ _ (Nat.ne_of_beq_eq_false rfl)).trans ((mj_up_ne _ _ (Nat.ne_of_beq_eq_false rfl)).trans ((mj_up_ne _ _ (Nat.ne_of_beq_eq_false rfl)).trans ((mj_up_ne _ _ (Nat.ne_of_beq_eq_false rfl)).trans ((mj_up_ne _ _ (Nat.ne_of_beq_eq_false rfl)).trans ((mj_up_ne _ _ (Nat.ne_of_beq_eq_false rfl)).trans h_117))))))))))))))) (by unfold vp_in; decide) rfl ?_
      refine mv_aload_n d_TrustDeskModel_fund_111 rfl rfl ?_
      refine mv_get d_TrustDeskModel_fund_112 f_TrustDeskModel_72_13 ((mj_up_ne _ _ (Nat.ne_of_beq_eq_false rfl)).trans ((mj_up_ne _ _ (Nat.ne_of_beq_eq_false rfl)).trans ((mj_up_ne _ _ (Nat.ne_of_beq_eq_false rfl)).trans ((mj_up_ne _ _ (Nat.ne_of_beq_eq_false rfl)).trans (mj_up_self _ _ _))))) rfl ?_
      refine mv_iload d_TrustDeskModel_fund_115 rfl ?_
      refine mv_lconst (v := 0) d_TrustDeskModel_fund_117 (by decide) ?_
      refine mv_last (f' := (vp_updL (fun _ => 0) 0 0)) d_TrustDeskModel_fund_118 ((mj_up_ne _ _ (Nat.ne_of_beq_eq_false rfl)).trans ((mj_up_ne _ _ (Nat.ne_of_beq_eq_false rfl)).trans ((mj_up_ne _ _ (Nat.ne_of_beq_eq_false rfl)).trans ((mj_up_ne _ _ (Nat.ne_of_beq_eq_false rfl)).trans ((mj_up_ne _ _ (Nat.ne_of_beq_eq_false rfl)).trans ((mj_up_ne _ _ (Nat.ne_of_beq_eq_false rfl)).trans ((mj_up_ne _ _ (Nat.ne_of_beq_eq_false rfl)).trans ((mj_up_ne _ _ (Nat.ne_of_beq_eq_false rfl)).trans ((mj_up_ne _ _ (Nat.ne_of_beq_eq_false rfl)).trans ((mj_up_ne _ _ (Nat.ne_of_beq_eq_false rfl)).trans ((mj_up_ne _ _ (Nat.ne_of_beq_eq_false rfl)).trans ((mj_up_ne _ _ (Nat.ne_of_beq_eq_false rfl)).trans ((mj_up_ne _ _ (Nat.ne_of_beq_eq_false rfl)).trans ((mj_up_ne _ _ (Nat.ne_of_beq_eq_false rfl)).trans ((mj_up_ne _ _ (Nat.ne_of_beq_eq_false rfl)).trans ((mj_up_ne _ _ (Nat.ne_of_beq_eq_false rfl)).trans h_118)))))))))))))))) (by unfold vp_in; decide) rfl ?_
      refine mv_aload_n d_TrustDeskModel_fund_119 rfl rfl ?_
      refine mv_get d_TrustDeskModel_fund_120 f_TrustDeskModel_76_13 ((mj_up_ne _ _ (Nat.ne_of_beq_eq_false rfl)).trans ((mj_up_ne _ _ (Nat.ne_of_beq_eq_false rfl)).trans ((mj_up_ne _ _ (Nat.ne_of_beq_eq_false rfl)).trans ((mj_up_ne _ _ (Nat.ne_of_beq_eq_false rfl)).trans ((mj_up_ne _ _ (Nat.ne_of_beq_eq_false rfl)).trans (mj_up_self _ _ _)))))) rfl ?_
      refine mv_iload d_TrustDeskModel_fund_123 rfl ?_
      refine mv_iconst (v := 0) d_TrustDeskModel_fund_125 (by decide) ?_
      refine mv_iast (f' := (upd (fun _ => 0) 0 0)) d_TrustDeskModel_fund_126 ((mj_up_ne _ _ (Nat.ne_of_beq_eq_false rfl)).trans ((mj_up_ne _ _ (Nat.ne_of_beq_eq_false rfl)).trans ((mj_up_ne _ _ (Nat.ne_of_beq_eq_false rfl)).trans ((mj_up_ne _ _ (Nat.ne_of_beq_eq_false rfl)).trans ((mj_up_ne _ _ (Nat.ne_of_beq_eq_false rfl)).trans ((mj_up_ne _ _ (Nat.ne_of_beq_eq_false rfl)).trans ((mj_up_ne _ _ (Nat.ne_of_beq_eq_false rfl)).trans ((mj_up_ne _ _ (Nat.ne_of_beq_eq_false rfl)).trans ((mj_up_ne _ _ (Nat.ne_of_beq_eq_false rfl)).trans ((mj_up_ne _ _ (Nat.ne_of_beq_eq_false rfl)).trans ((mj_up_ne _ _ (Nat.ne_of_beq_eq_false rfl)).trans ((mj_up_ne _ _ (Nat.ne_of_beq_eq_false rfl)).trans ((mj_up_ne _ _ (Nat.ne_of_beq_eq_false rfl)).trans ((mj_up_ne _ _ (Nat.ne_of_beq_eq_false rfl)).trans ((mj_up_ne _ _ (Nat.ne_of_beq_eq_false rfl)).trans ((mj_up_ne _ _ (Nat.ne_of_beq_eq_false rfl)).trans ((mj_up_ne _ _ (Nat.ne_of_beq_eq_false rfl)).trans h_119))))))))))))))))) (by unfold vp_in; decide) rfl ?_
      refine mv_aload_n d_TrustDeskModel_fund_127 rfl rfl ?_
      refine mv_get d_TrustDeskModel_fund_128 f_TrustDeskModel_79_13 ((mj_up_ne _ _ (Nat.ne_of_beq_eq_false rfl)).trans ((mj_up_ne _ _ (Nat.ne_of_beq_eq_false rfl)).trans ((mj_up_ne _ _ (Nat.ne_of_beq_eq_false rfl)).trans ((mj_up_ne _ _ (Nat.ne_of_beq_eq_false rfl)).trans ((mj_up_ne _ _ (Nat.ne_of_beq_eq_false rfl)).trans ((mj_up_ne _ _ (Nat.ne_of_beq_eq_false rfl)).trans (mj_up_self _ _ _))))))) rfl ?_
      refine mv_iload d_TrustDeskModel_fund_131 rfl ?_
      refine mv_iconst (v := (-1)) d_TrustDeskModel_fund_133 (by decide) ?_
      refine mv_iast (f' := (upd (fun _ => 0) 0 (-1))) d_TrustDeskModel_fund_134 ((mj_up_ne _ _ (Nat.ne_of_beq_eq_false rfl)).trans ((mj_up_ne _ _ (Nat.ne_of_beq_eq_false rfl)).trans ((mj_up_ne _ _ (Nat.ne_of_beq_eq_false rfl)).trans ((mj_up_ne _ _ (Nat.ne_of_beq_eq_false rfl)).trans ((mj_up_ne _ _ (Nat.ne_of_beq_eq_false rfl)).trans ((mj_up_ne _ _ (Nat.ne_of_beq_eq_false rfl)).trans ((mj_up_ne _ _ (Nat.ne_of_beq_eq_false rfl)).trans ((mj_up_ne _ _ (Nat.ne_of_beq_eq_false rfl)).trans ((mj_up_ne _ _ (Nat.ne_of_beq_eq_false rfl)).trans ((mj_up_ne _ _ (Nat.ne_of_beq_eq_false rfl)).trans ((mj_up_ne _ _ (Nat.ne_of_beq_eq_false rfl)).trans ((mj_up_ne _ _ (Nat.ne_of_beq_eq_false rfl)).trans ((mj_up_ne _ _ (Nat.ne_of_beq_eq_false rfl)).trans ((mj_up_ne _ _ (Nat.ne_of_beq_eq_false rfl)).trans ((mj_up_ne _ _ (Nat.ne_of_beq_eq_false rfl)).trans ((mj_up_ne _ _ (Nat.ne_of_beq_eq_false rfl)).trans ((mj_up_ne _ _ (Nat.ne_of_beq_eq_false rfl)).trans ((mj_up_ne _ _ (Nat.ne_of_beq_eq_false rfl)).trans h_120)))))))))))))))))) (by unfold vp_in; decide) rfl ?_
      refine mv_aload_n d_TrustDeskModel_fund_135 rfl rfl ?_
      refine mv_get d_TrustDeskModel_fund_136 f_TrustDeskModel_82_13 ((mj_up_ne _ _ (Nat.ne_of_beq_eq_false rfl)).trans ((mj_up_ne _ _ (Nat.ne_of_beq_eq_false rfl)).trans ((mj_up_ne _ _ (Nat.ne_of_beq_eq_false rfl)).trans ((mj_up_ne _ _ (Nat.ne_of_beq_eq_false rfl)).trans ((mj_up_ne _ _ (Nat.ne_of_beq_eq_false rfl)).trans ((mj_up_ne _ _ (Nat.ne_of_beq_eq_false rfl)).trans ((mj_up_ne _ _ (Nat.ne_of_beq_eq_false rfl)).trans (mj_up_self _ _ _)))))))) rfl ?_
      refine mv_iload d_TrustDeskModel_fund_139 rfl ?_
      refine mv_bipush (v := 7) d_TrustDeskModel_fund_141 (by decide) ?_
      refine mv_iast (f' := (upd (fun _ => 0) 0 7)) d_TrustDeskModel_fund_143 ((mj_up_ne _ _ (Nat.ne_of_beq_eq_false rfl)).trans ((mj_up_ne _ _ (Nat.ne_of_beq_eq_false rfl)).trans ((mj_up_ne _ _ (Nat.ne_of_beq_eq_false rfl)).trans ((mj_up_ne _ _ (Nat.ne_of_beq_eq_false rfl)).trans ((mj_up_ne _ _ (Nat.ne_of_beq_eq_false rfl)).trans ((mj_up_ne _ _ (Nat.ne_of_beq_eq_false rfl)).trans ((mj_up_ne _ _ (Nat.ne_of_beq_eq_false rfl)).trans ((mj_up_ne _ _ (Nat.ne_of_beq_eq_false rfl)).trans ((mj_up_ne _ _ (Nat.ne_of_beq_eq_false rfl)).trans ((mj_up_ne _ _ (Nat.ne_of_beq_eq_false rfl)).trans ((mj_up_ne _ _ (Nat.ne_of_beq_eq_false rfl)).trans ((mj_up_ne _ _ (Nat.ne_of_beq_eq_false rfl)).trans ((mj_up_ne _ _ (Nat.ne_of_beq_eq_false rfl)).trans ((mj_up_ne _ _ (Nat.ne_of_beq_eq_false rfl)).trans ((mj_up_ne _ _ (Nat.ne_of_beq_eq_false rfl)).trans ((mj_up_ne _ _ (Nat.ne_of_beq_eq_false rfl)).trans ((mj_up_ne _ _ (Nat.ne_of_beq_eq_false rfl)).trans ((mj_up_ne _ _ (Nat.ne_of_beq_eq_false rfl)).trans ((mj_up_ne _ _ (Nat.ne_of_beq_eq_false rfl)).trans h_121))))))))))))))))))) (by unfold vp_in; decide) rfl ?_
      refine mv_aload_n d_TrustDeskModel_fund_144 rfl rfl ?_
      refine mv_get d_TrustDeskModel_fund_145 f_TrustDeskModel_85_13 ((mj_up_ne _ _ (Nat.ne_of_beq_eq_false rfl)).trans ((mj_up_ne _ _ (Nat.ne_of_beq_eq_false rfl)).trans ((mj_up_ne _ _ (Nat.ne_of_beq_eq_false rfl)).trans ((mj_up_ne _ _ (Nat.ne_of_beq_eq_false rfl)).trans ((mj_up_ne _ _ (Nat.ne_of_beq_eq_false rfl)).trans ((mj_up_ne _ _ (Nat.ne_of_beq_eq_false rfl)).trans ((mj_up_ne _ _ (Nat.ne_of_beq_eq_false rfl)).trans ((mj_up_ne _ _ (Nat.ne_of_beq_eq_false rfl)).trans (mj_up_self _ _ _))))))))) rfl ?_
      refine mv_iload d_TrustDeskModel_fund_148 rfl ?_
      refine mv_iconst (v := 1) d_TrustDeskModel_fund_150 (by decide) ?_
      refine mv_iast (f' := (upd (fun _ => 0) 0 1)) d_TrustDeskModel_fund_151 ((mj_up_ne _ _ (Nat.ne_of_beq_eq_false rfl)).trans ((mj_up_ne _ _ (Nat.ne_of_beq_eq_false rfl)).trans ((mj_up_ne _ _ (Nat.ne_of_beq_eq_false rfl)).trans ((mj_up_ne _ _ (Nat.ne_of_beq_eq_false rfl)).trans ((mj_up_ne _ _ (Nat.ne_of_beq_eq_false rfl)).trans ((mj_up_ne _ _ (Nat.ne_of_beq_eq_false rfl)).trans ((mj_up_ne _ _ (Nat.ne_of_beq_eq_false rfl)).trans ((mj_up_ne _ _ (Nat.ne_of_beq_eq_false rfl)).trans ((mj_up_ne _ _ (Nat.ne_of_beq_eq_false rfl)).trans ((mj_up_ne _ _ (Nat.ne_of_beq_eq_false rfl)).trans ((mj_up_ne _ _ (Nat.ne_of_beq_eq_false rfl)).trans ((mj_up_ne _ _ (Nat.ne_of_beq_eq_false rfl)).trans ((mj_up_ne _ _ (Nat.ne_of_beq_eq_false rfl)).trans ((mj_up_ne _ _ (Nat.ne_of_beq_eq_false rfl)).trans ((mj_up_ne _ _ (Nat.ne_of_beq_eq_false rfl)).trans ((mj_up_ne _ _ (Nat.ne_of_beq_eq_false rfl)).trans ((mj_up_ne _ _ (Nat.ne_of_beq_eq_false rfl)).trans ((mj_up_ne _ _ (Nat.ne_of_beq_eq_false rfl)).trans ((mj_up_ne _ _ (Nat.ne_of_beq_eq_false rfl)).trans ((mj_up_ne _ _ (Nat.ne_of_beq_eq_false rfl)).trans h_122)))))))))))))))))))) (by unfold vp_in; decide) rfl ?_
      refine mv_iconst (v := 0) d_TrustDeskModel_fund_152 (by decide) ?_
      refine mv_istore (lv' := [(6, .int 0), (5, .int 0), (4, .int 0), (3, .int 20), (0, .ref 99), (1, .int x1), (2, .int x2)]) d_TrustDeskModel_fund_153 (by decide) rfl ?_
      refine mv_iload d_TrustDeskModel_fund_155 rfl ?_
      refine mv_aload_n d_TrustDeskModel_fund_157 rfl rfl ?_
      refine mv_get d_TrustDeskModel_fund_158 f_TrustDeskModel_23_13 ((mj_up_ne _ _ (Nat.ne_of_beq_eq_false rfl)).trans ((mj_up_ne _ _ (Nat.ne_of_beq_eq_false rfl)).trans ((mj_up_ne _ _ (Nat.ne_of_beq_eq_false rfl)).trans ((mj_up_ne _ _ (Nat.ne_of_beq_eq_false rfl)).trans ((mj_up_ne _ _ (Nat.ne_of_beq_eq_false rfl)).trans ((mj_up_ne _ _ (Nat.ne_of_beq_eq_false rfl)).trans ((mj_up_ne _ _ (Nat.ne_of_beq_eq_false rfl)).trans ((mj_up_ne _ _ (Nat.ne_of_beq_eq_false rfl)).trans ((mj_up_ne _ _ (Nat.ne_of_beq_eq_false rfl)).trans (mj_up_self _ _ _)))))))))) rfl ?_
      refine mv_iload_n d_TrustDeskModel_fund_161 rfl rfl ?_
      refine mv_iald (v := 0) d_TrustDeskModel_fund_162 ((mj_up_ne _ _ (Nat.ne_of_beq_eq_false rfl)).trans ((mj_up_ne _ _ (Nat.ne_of_beq_eq_false rfl)).trans ((mj_up_ne _ _ (Nat.ne_of_beq_eq_false rfl)).trans ((mj_up_ne _ _ (Nat.ne_of_beq_eq_false rfl)).trans ((mj_up_ne _ _ (Nat.ne_of_beq_eq_false rfl)).trans ((mj_up_ne _ _ (Nat.ne_of_beq_eq_false rfl)).trans ((mj_up_ne _ _ (Nat.ne_of_beq_eq_false rfl)).trans (mj_up_self _ _ _)))))))) (by unfold vp_in; decide) rfl ?_
      refine mv_icmp_ge_t (tgt := 274) d_TrustDeskModel_fund_163 (by decide) (by decide) ?_
      refine mv_aload_n d_TrustDeskModel_fund_274 rfl rfl ?_
      refine mv_get d_TrustDeskModel_fund_275 f_TrustDeskModel_92_13 ((mj_up_ne _ _ (Nat.ne_of_beq_eq_false rfl)).trans ((mj_up_ne _ _ (Nat.ne_of_beq_eq_false rfl)).trans ((mj_up_ne _ _ (Nat.ne_of_beq_eq_false rfl)).trans ((mj_up_ne _ _ (Nat.ne_of_beq_eq_false rfl)).trans ((mj_up_ne _ _ (Nat.ne_of_beq_eq_false rfl)).trans ((mj_up_ne _ _ (Nat.ne_of_beq_eq_false rfl)).trans ((mj_up_ne _ _ (Nat.ne_of_beq_eq_false rfl)).trans ((mj_up_ne _ _ (Nat.ne_of_beq_eq_false rfl)).trans ((mj_up_ne _ _ (Nat.ne_of_beq_eq_false rfl)).trans (mj_up_self _ _ _)))))))))) rfl ?_
      refine mv_bipush (v := 12) d_TrustDeskModel_fund_278 (by decide) ?_
      refine mv_iload d_TrustDeskModel_fund_280 rfl ?_
      refine mv_imulv (v := 0) d_TrustDeskModel_fund_282 (by decide) ?_
      refine mv_iload d_TrustDeskModel_fund_283 rfl ?_
      refine mv_iaddv (v := 0) d_TrustDeskModel_fund_285 (by decide) ?_
      refine mv_ldcw d_TrustDeskModel_fund_286 k_TrustDeskModel_432 ?_
      refine mv_iast (f' := (upd (fun _ => 0) 0 1000000)) d_TrustDeskModel_fund_289 ((mj_up_ne _ _ (Nat.ne_of_beq_eq_false rfl)).trans ((mj_up_ne _ _ (Nat.ne_of_beq_eq_false rfl)).trans ((mj_up_ne _ _ (Nat.ne_of_beq_eq_false rfl)).trans ((mj_up_ne _ _ (Nat.ne_of_beq_eq_false rfl)).trans ((mj_up_ne _ _ (Nat.ne_of_beq_eq_false rfl)).trans ((mj_up_ne _ _ (Nat.ne_of_beq_eq_false rfl)).trans ((mj_up_ne _ _ (Nat.ne_of_beq_eq_false rfl)).trans ((mj_up_ne _ _ (Nat.ne_of_beq_eq_false rfl)).trans ((mj_up_ne _ _ (Nat.ne_of_beq_eq_false rfl)).trans ((mj_up_ne _ _ (Nat.ne_of_beq_eq_false rfl)).trans ((mj_up_ne _ _ (Nat.ne_of_beq_eq_false rfl)).trans ((mj_up_ne _ _ (Nat.ne_of_beq_eq_false rfl)).trans ((mj_up_ne _ _ (Nat.ne_of_beq_eq_false rfl)).trans ((mj_up_ne _ _ (Nat.ne_of_beq_eq_false rfl)).trans ((mj_up_ne _ _ (Nat.ne_of_beq_eq_false rfl)).trans ((mj_up_ne _ _ (Nat.ne_of_beq_eq_false rfl)).trans ((mj_up_ne _ _ (Nat.ne_of_beq_eq_false rfl)).trans ((mj_up_ne _ _ (Nat.ne_of_beq_eq_false rfl)).trans ((mj_up_ne _ _ (Nat.ne_of_beq_eq_false rfl)).trans ((mj_up_ne _ _ (Nat.ne_of_beq_eq_false rfl)).trans ((mj_up_ne _ _ (Nat.ne_of_beq_eq_false rfl)).trans h_124))))))))))))))))))))) (by unfold vp_in; decide) rfl ?_
      refine mv_aload_n d_TrustDeskModel_fund_290 rfl rfl ?_
      refine mv_dup d_TrustDeskModel_fund_291 rfl ?_
      refine mv_get d_TrustDeskModel_fund_292 f_TrustDeskModel_415_13 ((mj_up_ne _ _ (Nat.ne_of_beq_eq_false rfl)).trans ((mj_up_ne _ _ (Nat.ne_of_beq_eq_false rfl)).trans ((mj_up_ne _ _ (Nat.ne_of_beq_eq_false rfl)).trans ((mj_up_ne _ _ (Nat.ne_of_beq_eq_false rfl)).trans ((mj_up_ne _ _ (Nat.ne_of_beq_eq_false rfl)).trans ((mj_up_ne _ _ (Nat.ne_of_beq_eq_false rfl)).trans ((mj_up_ne _ _ (Nat.ne_of_beq_eq_false rfl)).trans ((mj_up_ne _ _ (Nat.ne_of_beq_eq_false rfl)).trans ((mj_up_ne _ _ (Nat.ne_of_beq_eq_false rfl)).trans ((mj_up_ne _ _ (Nat.ne_of_beq_eq_false rfl)).trans (mj_up_self _ _ _))))))))))) rfl ?_
      refine mv_iconst (v := 1) d_TrustDeskModel_fund_295 (by decide) ?_
      refine mv_iaddv (v := 1) d_TrustDeskModel_fund_296 (by decide) ?_
      refine mv_put (fs' := [.int 0, .int 0, .int 0, .ref 100, .ref 101, .ref 102, .ref 103, .ref 104, .ref 105, .ref 106, .ref 107, .ref 108, .ref 109, .ref 110, .int 0, .int 0, .int 0, .int 0, .int 0, .int 0, .int 0, .int (-1), .int 0, .int 0, .int 0, .ref 111, .ref 112, .int 0, .ref 113, .ref 114, .ref 115, .int 0, .int 1, .ref 116, .ref 117, .ref 118, .ref 119, .ref 120, .ref 121, .ref 122, .ref 123, .ref 124, .ref 125, .ref 126, .ref 127, .ref 128, .ref 129, .ref 130, .ref 131, .int 0, .ref 132, .int 0, .ref 133, .int 0, .ref 134, .ref 135, .ref 136, .ref 137, .ref 138, .ref 139, .ref 140, .ref 141, .ref 142, .ref 143, .ref 144, .ref 145, .ref 146, .int 0, .long 0, .int 0, .int 0, .ref 147]) d_TrustDeskModel_fund_297 p_TrustDeskModel_415_13 ((mj_up_ne _ _ (Nat.ne_of_beq_eq_false rfl)).trans ((mj_up_ne _ _ (Nat.ne_of_beq_eq_false rfl)).trans ((mj_up_ne _ _ (Nat.ne_of_beq_eq_false rfl)).trans ((mj_up_ne _ _ (Nat.ne_of_beq_eq_false rfl)).trans ((mj_up_ne _ _ (Nat.ne_of_beq_eq_false rfl)).trans ((mj_up_ne _ _ (Nat.ne_of_beq_eq_false rfl)).trans ((mj_up_ne _ _ (Nat.ne_of_beq_eq_false rfl)).trans ((mj_up_ne _ _ (Nat.ne_of_beq_eq_false rfl)).trans ((mj_up_ne _ _ (Nat.ne_of_beq_eq_false rfl)).trans ((mj_up_ne _ _ (Nat.ne_of_beq_eq_false rfl)).trans (mj_up_self _ _ _))))))))))) (Nat.le_of_ble_eq_true rfl) rfl rfl rfl ?_
      refine mv_iload d_TrustDeskModel_fund_300 rfl ?_
      exact mv_iret d_TrustDeskModel_fund_302 rfl (by first | rfl | decide) ⟨(by unfold e_fund; first | rw [if_pos (by omega)] | rw [if_neg (by omega)]), fun a ha1 ha2 => (mj_up_ne _ _ (show a ≠ 99 by omega)).trans ((mj_up_ne _ _ (show a ≠ 124 by omega)).trans ((mj_up_ne _ _ (show a ≠ 122 by omega)).trans ((mj_up_ne _ _ (show a ≠ 121 by omega)).trans ((mj_up_ne _ _ (show a ≠ 120 by omega)).trans ((mj_up_ne _ _ (show a ≠ 119 by omega)).trans ((mj_up_ne _ _ (show a ≠ 118 by omega)).trans ((mj_up_ne _ _ (show a ≠ 117 by omega)).trans ((mj_up_ne _ _ (show a ≠ 116 by omega)).trans ((mj_up_ne _ _ (show a ≠ 103 by omega)).trans ((mj_up_ne _ _ (show a ≠ 102 by omega)).trans ((mj_up_ne _ _ (show a ≠ 99 by omega)).trans ((mj_up_ne _ _ (show a ≠ 99 by omega)).trans ((mj_up_ne _ _ (show a ≠ 99 by omega)).trans ((mj_up_ne _ _ (show a ≠ 99 by omega)).trans ((mj_up_ne _ _ (show a ≠ 103 by omega)).trans ((mj_up_ne _ _ (show a ≠ 102 by omega)).trans ((mj_up_ne _ _ (show a ≠ 99 by omega)).trans ((mj_up_ne _ _ (show a ≠ 99 by omega)).trans ((mj_up_ne _ _ (show a ≠ 99 by omega)).trans ((mj_up_ne _ _ (show a ≠ 99 by omega)).trans ((mj_up_ne _ _ (show a ≠ 99 by omega)).trans ((mj_up_ne _ _ (show a ≠ 99 by omega)).trans (rfl)))))))))))))))))))))))⟩
    · rw [mz_wide] at b2
      refine mv_if_eq_t (tgt := 38) d_TrustDeskModel_fund_26 (by decide) (by decide) ?_
      refine mv_iconst (v := (-1)) d_TrustDeskModel_fund_38 (by decide) ?_
      exact mv_iret d_TrustDeskModel_fund_39 rfl (by first | rfl | decide) ⟨(by unfold e_fund; first | rw [if_pos (by omega)] | rw [if_neg (by omega)]), fun a ha1 ha2 => (mj_up_ne _ _ (show a ≠ 99 by omega)).trans (rfl)⟩
  · rw [mz_wide] at b1
    refine mv_if_eq_t (tgt := 38) d_TrustDeskModel_fund_14 (by decide) (by decide) ?_
    refine mv_iconst (v := (-1)) d_TrustDeskModel_fund_38 (by decide) ?_
    exact mv_iret d_TrustDeskModel_fund_39 rfl (by first | rfl | decide) ⟨(by unfold e_fund; first | rw [if_pos (by omega)] | rw [if_neg (by omega)]), fun a ha1 ha2 => (mj_up_ne _ _ (show a ≠ 99 by omega)).trans (rfl)⟩
abbrev kY_TrustDeskModel_near : mj_Y := (⟨"TrustDeskModel", "near", "(I)I"⟩, prog_14_method_56_code, 3, (Option.some Jvm.ClassFile.FieldType.int))
theorem d_TrustDeskModel_near_0 : decode kY_TrustDeskModel_near.2.1 0 = .ok (.aload_n 0, 1) := by decide +kernel
theorem d_TrustDeskModel_near_1 : decode kY_TrustDeskModel_near.2.1 1 = .ok (.iconst 0, 1) := by decide +kernel
theorem d_TrustDeskModel_near_2 : decode kY_TrustDeskModel_near.2.1 2 = .ok (.putfield 1, 3) := by decide +kernel
theorem d_TrustDeskModel_near_5 : decode kY_TrustDeskModel_near.2.1 5 = .ok (.iload_n 1, 1) := by decide +kernel
theorem d_TrustDeskModel_near_6 : decode kY_TrustDeskModel_near.2.1 6 = .ok (.i2l, 1) := by decide +kernel
theorem d_TrustDeskModel_near_7 : decode kY_TrustDeskModel_near.2.1 7 = .ok (.lconst 0, 1) := by decide +kernel
theorem d_TrustDeskModel_near_8 : decode kY_TrustDeskModel_near.2.1 8 = .ok (.ldc2_w 433, 3) := by decide +kernel
theorem k_TrustDeskModel_433 : Cond.constantLong "TrustDeskModel" 433 255 ∈ mj_T := (mj_in1 (List.mem_of_getElem? (i := 1829) (by decide +kernel)) rfl)
theorem d_TrustDeskModel_near_11 : decode kY_TrustDeskModel_near.2.1 11 = .ok (.invokestatic 169, 3) := by decide +kernel
theorem c_TrustDeskModel_within_6 {g : mj_G} {l : Launch} {d nx : Nat} {M : mj_M} {x0 : Int64} : mj_Met g l kY_TrustDeskModel_within d [.long x0, .long 0, .long 255] M nx 0 0 (mj_B (0 ≤ x0.toInt ∧ x0.toInt ≤ 255) M nx) := by
  refine mj_enter (by decide) (Nat.le_of_ble_eq_true rfl) ?_
  refine mv_lload_n d_TrustDeskModel_within_0 rfl rfl ?_
  refine mv_lload_n d_TrustDeskModel_within_1 rfl rfl ?_
  refine mv_lltZ (tgt := 17) (a := x0.toInt) (b := 0) d_TrustDeskModel_within_2 d_TrustDeskModel_within_3 (by decide) rfl (by decide) (fun b1 => ?_) (fun b1 => ?_)
  · refine mv_iconst (v := 0) d_TrustDeskModel_within_17 (by decide) ?_
    exact mv_iret d_TrustDeskModel_within_18 rfl (by first | rfl | decide) ⟨Or.inr ⟨by omega, rfl⟩, rfl, rfl⟩
  · refine mv_lload_n d_TrustDeskModel_within_6 rfl rfl ?_
    refine mv_lload d_TrustDeskModel_within_7 rfl ?_
    refine mv_lgtZ (tgt := 17) (a := x0.toInt) (b := 255) d_TrustDeskModel_within_9 d_TrustDeskModel_within_10 (by decide) rfl (by decide) (fun b2 => ?_) (fun b2 => ?_)
    · refine mv_iconst (v := 0) d_TrustDeskModel_within_17 (by decide) ?_
      exact mv_iret d_TrustDeskModel_within_18 rfl (by first | rfl | decide) ⟨Or.inr ⟨by omega, rfl⟩, rfl, rfl⟩
    · refine mv_iconst (v := 1) d_TrustDeskModel_within_13 (by decide) ?_
      refine mv_goto (tgt := 18) d_TrustDeskModel_within_14 (by decide) ?_
      exact mv_iret d_TrustDeskModel_within_18 rfl (by first | rfl | decide) ⟨Or.inl ⟨by omega, rfl⟩, rfl, rfl⟩
theorem d_TrustDeskModel_near_14 : decode kY_TrustDeskModel_near.2.1 14 = .ok (.ifCond .eq 12, 3) := by decide +kernel
theorem d_TrustDeskModel_near_17 : decode kY_TrustDeskModel_near.2.1 17 = .ok (.aload_n 0, 1) := by decide +kernel
theorem d_TrustDeskModel_near_18 : decode kY_TrustDeskModel_near.2.1 18 = .ok (.getfield 435, 3) := by decide +kernel
theorem f_TrustDeskModel_435_13 : mj_fl "TrustDeskModel" 435 13 49 := ⟨kR_TrustDeskModel, kF_TrustDeskModel, 72, "TrustDeskModel", rfl, kg_13, by decide, (mj_in1 (List.mem_of_getElem? (i := 1439) (by decide +kernel)) rfl), Or.inl rfl⟩
theorem d_TrustDeskModel_near_21 : decode kY_TrustDeskModel_near.2.1 21 = .ok (.bipush 12, 2) := by decide +kernel
theorem d_TrustDeskModel_near_23 : decode kY_TrustDeskModel_near.2.1 23 = .ok (.if_icmp .ne 5, 3) := by decide +kernel
theorem d_TrustDeskModel_near_28 : decode kY_TrustDeskModel_near.2.1 28 = .ok (.aload_n 0, 1) := by decide +kernel
theorem d_TrustDeskModel_near_29 : decode kY_TrustDeskModel_near.2.1 29 = .ok (.iconst 0, 1) := by decide +kernel
theorem d_TrustDeskModel_near_30 : decode kY_TrustDeskModel_near.2.1 30 = .ok (.invokevirtual 381, 3) := by decide +kernel
theorem d_TrustDeskModel_near_33 : decode kY_TrustDeskModel_near.2.1 33 = .ok (.aload_n 0, 1) := by decide +kernel
theorem d_TrustDeskModel_near_34 : decode kY_TrustDeskModel_near.2.1 34 = .ok (.ldc_w 336, 3) := by decide +kernel
theorem d_TrustDeskModel_near_37 : decode kY_TrustDeskModel_near.2.1 37 = .ok (.invokevirtual 244, 3) := by decide +kernel
abbrev kY_TrustDeskModel_isWord : mj_Y := (⟨"TrustDeskModel", "isWord", "(Ljava/lang/String;)Z"⟩, prog_14_method_17_code, 3, (Option.some Jvm.ClassFile.FieldType.boolean))
theorem lV_TrustDeskModel_244 : mj_lV "TrustDeskModel" 244 kY_TrustDeskModel_isWord 1 := ⟨⟨(mj_in1 (List.mem_of_getElem? (i := 1679) (by decide +kernel)) rfl), (mj_in1 (List.mem_of_getElem? (i := 10) (by decide +kernel)) rfl), (mj_in1 (List.mem_of_getElem? (i := 1682) (by decide +kernel)) rfl), by decide, rfl, by decide⟩, (mj_in1 (List.mem_of_getElem? (i := 1681) (by decide +kernel)) rfl), (mj_in (List.mem_append_left _ (List.mem_of_getElem? (i := 86) (by decide +kernel))) rfl)⟩
theorem d_TrustDeskModel_isWord_0 : decode kY_TrustDeskModel_isWord.2.1 0 = .ok (.aload_n 0, 1) := by decide +kernel
theorem d_TrustDeskModel_isWord_1 : decode kY_TrustDeskModel_isWord.2.1 1 = .ok (.getfield 198, 3) := by decide +kernel
theorem d_TrustDeskModel_isWord_4 : decode kY_TrustDeskModel_isWord.2.1 4 = .ok (.iconst 3, 1) := by decide +kernel
theorem d_TrustDeskModel_isWord_5 : decode kY_TrustDeskModel_isWord.2.1 5 = .ok (.if_icmp .ne 19, 3) := by decide +kernel
theorem d_TrustDeskModel_isWord_24 : decode kY_TrustDeskModel_isWord.2.1 24 = .ok (.iconst 0, 1) := by decide +kernel
theorem d_TrustDeskModel_isWord_25 : decode kY_TrustDeskModel_isWord.2.1 25 = .ok (.ireturn, 1) := by decide +kernel
theorem c_TrustDeskModel_isWord_0 {g : mj_G} {l : Launch} {d nx : Nat} {M : mj_M} (h_99 : M 99 = some (.inr (13, [.int 0, .int 0, .int 0, .ref 100, .ref 101, .ref 102, .ref 103, .ref 104, .ref 105, .ref 106, .ref 107, .ref 108, .ref 109, .ref 110, .int 0, .int 0, .int 0, .int 0, .int 0, .int 0, .int 0, .int (-1), .int 0, .int 0, .int 0, .ref 111, .ref 112, .int 0, .ref 113, .ref 114, .ref 115, .int 0, .int 0, .ref 116, .ref 117, .ref 118, .ref 119, .ref 120, .ref 121, .ref 122, .ref 123, .ref 124, .ref 125, .ref 126, .ref 127, .ref 128, .ref 129, .ref 130, .ref 131, .int 0, .ref 132, .int 0, .ref 133, .int 0, .ref 134, .ref 135, .ref 136, .ref 137, .ref 138, .ref 139, .ref 140, .ref 141, .ref 142, .ref 143, .ref 144, .ref 145, .ref 146, .int 0, .long 0, .int 0, .int 0, .ref 147]))) : mj_Met g l kY_TrustDeskModel_isWord d [.ref 99, .ref 42] M nx 0 0 (mj_E1 (some (.int 0)) M nx) := by
  refine mj_enter (by decide) (Nat.le_of_ble_eq_true rfl) ?_
  refine mv_aload_n d_TrustDeskModel_isWord_0 rfl rfl ?_
  refine mv_get d_TrustDeskModel_isWord_1 f_TrustDeskModel_198_13 h_99 rfl ?_
  refine mv_iconst (v := 3) d_TrustDeskModel_isWord_4 (by decide) ?_
  refine mv_icmp_ne_t (tgt := 24) d_TrustDeskModel_isWord_5 (by decide) (by decide) ?_
  refine mv_iconst (v := 0) d_TrustDeskModel_isWord_24 (by decide) ?_
  exact mv_iret d_TrustDeskModel_isWord_25 rfl (by first | rfl | decide) ⟨rfl, rfl, rfl⟩
theorem d_TrustDeskModel_near_40 : decode kY_TrustDeskModel_near.2.1 40 = .ok (.ifCond .eq 10, 3) := by decide +kernel
theorem d_TrustDeskModel_near_50 : decode kY_TrustDeskModel_near.2.1 50 = .ok (.aload_n 0, 1) := by decide +kernel
theorem d_TrustDeskModel_near_51 : decode kY_TrustDeskModel_near.2.1 51 = .ok (.iconst 1, 1) := by decide +kernel
theorem d_TrustDeskModel_near_52 : decode kY_TrustDeskModel_near.2.1 52 = .ok (.invokevirtual 240, 3) := by decide +kernel
abbrev kY_TrustDeskModel_fails : mj_Y := (⟨"TrustDeskModel", "fails", "(I)V"⟩, prog_14_method_19_code, 2, (Option.none : Option Jvm.ClassFile.FieldType))
theorem lV_TrustDeskModel_240 : mj_lV "TrustDeskModel" 240 kY_TrustDeskModel_fails 1 := ⟨⟨(mj_in1 (List.mem_of_getElem? (i := 1691) (by decide +kernel)) rfl), (mj_in1 (List.mem_of_getElem? (i := 10) (by decide +kernel)) rfl), (mj_in1 (List.mem_of_getElem? (i := 1694) (by decide +kernel)) rfl), by decide, rfl, by decide⟩, (mj_in1 (List.mem_of_getElem? (i := 1693) (by decide +kernel)) rfl), (mj_in (List.mem_append_left _ (List.mem_of_getElem? (i := 87) (by decide +kernel))) rfl)⟩
theorem d_TrustDeskModel_fails_0 : decode kY_TrustDeskModel_fails.2.1 0 = .ok (.aload_n 0, 1) := by decide +kernel
theorem d_TrustDeskModel_fails_1 : decode kY_TrustDeskModel_fails.2.1 1 = .ok (.getfield 224, 3) := by decide +kernel
theorem d_TrustDeskModel_fails_4 : decode kY_TrustDeskModel_fails.2.1 4 = .ok (.ifCond .eq 4, 3) := by decide +kernel
theorem d_TrustDeskModel_fails_8 : decode kY_TrustDeskModel_fails.2.1 8 = .ok (.aload_n 0, 1) := by decide +kernel
theorem d_TrustDeskModel_fails_9 : decode kY_TrustDeskModel_fails.2.1 9 = .ok (.iload_n 1, 1) := by decide +kernel
theorem d_TrustDeskModel_fails_10 : decode kY_TrustDeskModel_fails.2.1 10 = .ok (.putfield 224, 3) := by decide +kernel
theorem d_TrustDeskModel_fails_13 : decode kY_TrustDeskModel_fails.2.1 13 = .ok (.aload_n 0, 1) := by decide +kernel
theorem d_TrustDeskModel_fails_14 : decode kY_TrustDeskModel_fails.2.1 14 = .ok (.aload_n 0, 1) := by decide +kernel
theorem d_TrustDeskModel_fails_15 : decode kY_TrustDeskModel_fails.2.1 15 = .ok (.getfield 195, 3) := by decide +kernel
theorem f_TrustDeskModel_195_13 : mj_fl "TrustDeskModel" 195 13 16 := ⟨kR_TrustDeskModel, kF_TrustDeskModel, 72, "TrustDeskModel", rfl, kg_13, by decide, (mj_in1 (List.mem_of_getElem? (i := 1406) (by decide +kernel)) rfl), Or.inl rfl⟩
theorem d_TrustDeskModel_fails_18 : decode kY_TrustDeskModel_fails.2.1 18 = .ok (.putfield 227, 3) := by decide +kernel
theorem p_TrustDeskModel_227_13 : mj_fp "TrustDeskModel" 227 13 20 (kt_TrustDeskModel 20) false := ⟨kR_TrustDeskModel, kF_TrustDeskModel, 72, "TrustDeskModel", kt_TrustDeskModel, rfl, kg_13, by decide, (mj_in1 (List.mem_of_getElem? (i := 1410) (by decide +kernel)) rfl), Or.inl rfl, kto_TrustDeskModel, kn_TrustDeskModel, rfl, rfl, fun h => by cases h⟩
theorem d_TrustDeskModel_fails_21 : decode kY_TrustDeskModel_fails.2.1 21 = .ok (.return_, 1) := by decide +kernel
theorem c_TrustDeskModel_fails_0 {g : mj_G} {l : Launch} {d nx : Nat} {M : mj_M} (h_99 : M 99 = some (.inr (13, [.int 0, .int 0, .int 0, .ref 100, .ref 101, .ref 102, .ref 103, .ref 104, .ref 105, .ref 106, .ref 107, .ref 108, .ref 109, .ref 110, .int 0, .int 0, .int 0, .int 0, .int 0, .int 0, .int 0, .int (-1), .int 0, .int 0, .int 0, .ref 111, .ref 112, .int 0, .ref 113, .ref 114, .ref 115, .int 0, .int 0, .ref 116, .ref 117, .ref 118, .ref 119, .ref 120, .ref 121, .ref 122, .ref 123, .ref 124, .ref 125, .ref 126, .ref 127, .ref 128, .ref 129, .ref 130, .ref 131, .int 0, .ref 132, .int 0, .ref 133, .int 0, .ref 134, .ref 135, .ref 136, .ref 137, .ref 138, .ref 139, .ref 140, .ref 141, .ref 142, .ref 143, .ref 144, .ref 145, .ref 146, .int 0, .long 0, .int 0, .int 0, .ref 147]))) : mj_Met g l kY_TrustDeskModel_fails d [.ref 99, .int 1] M nx 0 0 (mj_E1 none (mj_up (mj_up M 99 (.inr (13, [.int 0, .int 0, .int 0, .ref 100, .ref 101, .ref 102, .ref 103, .ref 104, .ref 105, .ref 106, .ref 107, .ref 108, .ref 109, .ref 110, .int 0, .int 0, .int 0, .int 0, .int 0, .int 1, .int 0, .int (-1), .int 0, .int 0, .int 0, .ref 111, .ref 112, .int 0, .ref 113, .ref 114, .ref 115, .int 0, .int 0, .ref 116, .ref 117, .ref 118, .ref 119, .ref 120, .ref 121, .ref 122, .ref 123, .ref 124, .ref 125, .ref 126, .ref 127, .ref 128, .ref 129, .ref 130, .ref 131, .int 0, .ref 132, .int 0, .ref 133, .int 0, .ref 134, .ref 135, .ref 136, .ref 137, .ref 138, .ref 139, .ref 140, .ref 141, .ref 142, .ref 143, .ref 144, .ref 145, .ref 146, .int 0, .long 0, .int 0, .int 0, .ref 147]))) 99 (.inr (13, [.int 0, .int 0, .int 0, .ref 100, .ref 101, .ref 102, .ref 103, .ref 104, .ref 105, .ref 106, .ref 107, .ref 108, .ref 109, .ref 110, .int 0, .int 0, .int 0, .int 0, .int 0, .int 1, .int 0, .int (-1), .int 0, .int 0, .int 0, .ref 111, .ref 112, .int 0, .ref 113, .ref 114, .ref 115, .int 0, .int 0, .ref 116, .ref 117, .ref 118, .ref 119, .ref 120, .ref 121, .ref 122, .ref 123, .ref 124, .ref 125, .ref 126, .ref 127, .ref 128, .ref 129, .ref 130, .ref 131, .int 0, .ref 132, .int 0, .ref 133, .int 0, .ref 134, .ref 135, .ref 136, .ref 137, .ref 138, .ref 139, .ref 140, .ref 141, .ref 142, .ref 143, .ref 144, .ref 145, .ref 146, .int 0, .long 0, .int 0, .int 0, .ref 147]))) nx) := by
  refine mj_enter (by decide) (Nat.le_of_ble_eq_true rfl) ?_
  refine mv_aload_n d_TrustDeskModel_fails_0 rfl rfl ?_
  refine mv_get d_TrustDeskModel_fails_1 f_TrustDeskModel_224_13 h_99 rfl ?_
  refine mv_if_eq_t (tgt := 8) d_TrustDeskModel_fails_4 (by decide) (by decide) ?_
  refine mv_aload_n d_TrustDeskModel_fails_8 rfl rfl ?_
  refine mv_iload_n d_TrustDeskModel_fails_9 rfl rfl ?_
  refine mv_put (fs' := [.int 0, .int 0, .int 0, .ref 100, .ref 101, .ref 102, .ref 103, .ref 104, .ref 105, .ref 106, .ref 107, .ref 108, .ref 109, .ref 110, .int 0, .int 0, .int 0, .int 0, .int 0, .int 1, .int 0, .int (-1), .int 0, .int 0, .int 0, .ref 111, .ref 112, .int 0, .ref 113, .ref 114, .ref 115, .int 0, .int 0, .ref 116, .ref 117, .ref 118, .ref 119, .ref 120, .ref 121, .ref 122, .ref 123, .ref 124, .ref 125, .ref 126, .ref 127, .ref 128, .ref 129, .ref 130, .ref 131, .int 0, .ref 132, .int 0, .ref 133, .int 0, .ref 134, .ref 135, .ref 136, .ref 137, .ref 138, .ref 139, .ref 140, .ref 141, .ref 142, .ref 143, .ref 144, .ref 145, .ref 146, .int 0, .long 0, .int 0, .int 0, .ref 147]) d_TrustDeskModel_fails_10 p_TrustDeskModel_224_13 h_99 (Nat.le_of_ble_eq_true rfl) rfl rfl rfl ?_
  refine mv_aload_n d_TrustDeskModel_fails_13 rfl rfl ?_
  refine mv_aload_n d_TrustDeskModel_fails_14 rfl rfl ?_
  refine mv_get d_TrustDeskModel_fails_15 f_TrustDeskModel_195_13 (mj_up_self _ _ _) rfl ?_
  refine mv_put (fs' := [.int 0, .int 0, .int 0, .ref 100, .ref 101, .ref 102, .ref 103, .ref 104, .ref 105, .ref 106, .ref 107, .ref 108, .ref 109, .ref 110, .int 0, .int 0, .int 0, .int 0, .int 0, .int 1, .int 0, .int (-1), .int 0, .int 0, .int 0, .ref 111, .ref 112, .int 0, .ref 113, .ref 114, .ref 115, .int 0, .int 0, .ref 116, .ref 117, .ref 118, .ref 119, .ref 120, .ref 121, .ref 122, .ref 123, .ref 124, .ref 125, .ref 126, .ref 127, .ref 128, .ref 129, .ref 130, .ref 131, .int 0, .ref 132, .int 0, .ref 133, .int 0, .ref 134, .ref 135, .ref 136, .ref 137, .ref 138, .ref 139, .ref 140, .ref 141, .ref 142, .ref 143, .ref 144, .ref 145, .ref 146, .int 0, .long 0, .int 0, .int 0, .ref 147]) d_TrustDeskModel_fails_18 p_TrustDeskModel_227_13 (mj_up_self _ _ _) (Nat.le_of_ble_eq_true rfl) rfl rfl rfl ?_
  exact mv_vret d_TrustDeskModel_fails_21 rfl ⟨rfl, rfl, rfl⟩
theorem d_TrustDeskModel_near_55 : decode kY_TrustDeskModel_near.2.1 55 = .ok (.aload_n 0, 1) := by decide +kernel
theorem d_TrustDeskModel_near_56 : decode kY_TrustDeskModel_near.2.1 56 = .ok (.invokevirtual 230, 3) := by decide +kernel
theorem d_TrustDeskModel_isWell_11 : decode kY_TrustDeskModel_isWell.2.1 11 = .ok (.iconst 0, 1) := by decide +kernel
theorem c_TrustDeskModel_isWell_2 {g : mj_G} {l : Launch} {d nx : Nat} {M : mj_M} (h_99 : M 99 = some (.inr (13, [.int 0, .int 0, .int 0, .ref 100, .ref 101, .ref 102, .ref 103, .ref 104, .ref 105, .ref 106, .ref 107, .ref 108, .ref 109, .ref 110, .int 0, .int 0, .int 0, .int 0, .int 0, .int 1, .int 0, .int (-1), .int 0, .int 0, .int 0, .ref 111, .ref 112, .int 0, .ref 113, .ref 114, .ref 115, .int 0, .int 0, .ref 116, .ref 117, .ref 118, .ref 119, .ref 120, .ref 121, .ref 122, .ref 123, .ref 124, .ref 125, .ref 126, .ref 127, .ref 128, .ref 129, .ref 130, .ref 131, .int 0, .ref 132, .int 0, .ref 133, .int 0, .ref 134, .ref 135, .ref 136, .ref 137, .ref 138, .ref 139, .ref 140, .ref 141, .ref 142, .ref 143, .ref 144, .ref 145, .ref 146, .int 0, .long 0, .int 0, .int 0, .ref 147]))) : mj_Met g l kY_TrustDeskModel_isWell d [.ref 99] M nx 0 0 (mj_E1 (some (.int 0)) M nx) := by
  refine mj_enter (by decide) (Nat.le_of_ble_eq_true rfl) ?_
  refine mv_aload_n d_TrustDeskModel_isWell_0 rfl rfl ?_
  refine mv_get d_TrustDeskModel_isWell_1 f_TrustDeskModel_224_13 h_99 rfl ?_
  refine mv_if_ne_t (tgt := 11) d_TrustDeskModel_isWell_4 (by decide) (by decide) ?_
  refine mv_iconst (v := 0) d_TrustDeskModel_isWell_11 (by decide) ?_
  exact mv_iret d_TrustDeskModel_isWell_12 rfl (by first | rfl | decide) ⟨rfl, rfl, rfl⟩
theorem d_TrustDeskModel_near_59 : decode kY_TrustDeskModel_near.2.1 59 = .ok (.ifCond .eq 15, 3) := by decide +kernel
theorem d_TrustDeskModel_near_74 : decode kY_TrustDeskModel_near.2.1 74 = .ok (.aload_n 0, 1) := by decide +kernel
theorem d_TrustDeskModel_near_75 : decode kY_TrustDeskModel_near.2.1 75 = .ok (.bipush 32, 2) := by decide +kernel
theorem d_TrustDeskModel_near_77 : decode kY_TrustDeskModel_near.2.1 77 = .ok (.aload_n 0, 1) := by decide +kernel
theorem d_TrustDeskModel_near_78 : decode kY_TrustDeskModel_near.2.1 78 = .ok (.getfield 435, 3) := by decide +kernel
theorem d_TrustDeskModel_near_81 : decode kY_TrustDeskModel_near.2.1 81 = .ok (.iadd, 1) := by decide +kernel
theorem d_TrustDeskModel_near_82 : decode kY_TrustDeskModel_near.2.1 82 = .ok (.invokevirtual 388, 3) := by decide +kernel
theorem d_TrustDeskModel_stops_17 : decode kY_TrustDeskModel_stops.2.1 17 = .ok (.aload_n 0, 1) := by decide +kernel
theorem d_TrustDeskModel_stops_18 : decode kY_TrustDeskModel_stops.2.1 18 = .ok (.getfield 227, 3) := by decide +kernel
theorem f_TrustDeskModel_227_13 : mj_fl "TrustDeskModel" 227 13 20 := ⟨kR_TrustDeskModel, kF_TrustDeskModel, 72, "TrustDeskModel", rfl, kg_13, by decide, (mj_in1 (List.mem_of_getElem? (i := 1410) (by decide +kernel)) rfl), Or.inl rfl⟩
theorem c_TrustDeskModel_isWell_3 {g : mj_G} {l : Launch} {d nx : Nat} {M : mj_M} (h_99 : M 99 = some (.inr (13, [.int 0, .int 0, .int 0, .ref 100, .ref 101, .ref 102, .ref 103, .ref 104, .ref 105, .ref 106, .ref 107, .ref 108, .ref 109, .ref 110, .int 0, .int 0, .int 0, .int 0, .int 0, .int 1, .int 0, .int 0, .int 0, .int 0, .int 0, .ref 111, .ref 112, .int 0, .ref 113, .ref 114, .ref 115, .int 0, .int 0, .ref 116, .ref 117, .ref 118, .ref 119, .ref 120, .ref 121, .ref 122, .ref 123, .ref 124, .ref 125, .ref 126, .ref 127, .ref 128, .ref 129, .ref 130, .ref 131, .int 0, .ref 132, .int 0, .ref 133, .int 0, .ref 134, .ref 135, .ref 136, .ref 137, .ref 138, .ref 139, .ref 140, .ref 141, .ref 142, .ref 143, .ref 144, .ref 145, .ref 146, .int 0, .long 0, .int 0, .int 0, .ref 147]))) : mj_Met g l kY_TrustDeskModel_isWell d [.ref 99] M nx 0 0 (mj_E1 (some (.int 0)) M nx) := by
  refine mj_enter (by decide) (Nat.le_of_ble_eq_true rfl) ?_
  refine mv_aload_n d_TrustDeskModel_isWell_0 rfl rfl ?_
  refine mv_get d_TrustDeskModel_isWell_1 f_TrustDeskModel_224_13 h_99 rfl ?_
  refine mv_if_ne_t (tgt := 11) d_TrustDeskModel_isWell_4 (by decide) (by decide) ?_
  refine mv_iconst (v := 0) d_TrustDeskModel_isWell_11 (by decide) ?_
  exact mv_iret d_TrustDeskModel_isWell_12 rfl (by first | rfl | decide) ⟨rfl, rfl, rfl⟩
theorem d_TrustDeskModel_stops_31 : decode kY_TrustDeskModel_stops.2.1 31 = .ok (.iconst (-1), 1) := by decide +kernel
theorem d_TrustDeskModel_stops_32 : decode kY_TrustDeskModel_stops.2.1 32 = .ok (.aload_n 0, 1) := by decide +kernel
theorem d_TrustDeskModel_stops_33 : decode kY_TrustDeskModel_stops.2.1 33 = .ok (.getfield 224, 3) := by decide +kernel
theorem d_TrustDeskModel_stops_36 : decode kY_TrustDeskModel_stops.2.1 36 = .ok (.isub, 1) := by decide +kernel
theorem d_TrustDeskModel_stops_37 : decode kY_TrustDeskModel_stops.2.1 37 = .ok (.ireturn, 1) := by decide +kernel
theorem c_TrustDeskModel_stops_2 {g : mj_G} {l : Launch} {d nx : Nat} {M : mj_M} (h_99 : M 99 = some (.inr (13, [.int 0, .int 0, .int 0, .ref 100, .ref 101, .ref 102, .ref 103, .ref 104, .ref 105, .ref 106, .ref 107, .ref 108, .ref 109, .ref 110, .int 0, .int 0, .int 0, .int 0, .int 0, .int 1, .int 0, .int (-1), .int 0, .int 0, .int 0, .ref 111, .ref 112, .int 0, .ref 113, .ref 114, .ref 115, .int 0, .int 0, .ref 116, .ref 117, .ref 118, .ref 119, .ref 120, .ref 121, .ref 122, .ref 123, .ref 124, .ref 125, .ref 126, .ref 127, .ref 128, .ref 129, .ref 130, .ref 131, .int 0, .ref 132, .int 0, .ref 133, .int 0, .ref 134, .ref 135, .ref 136, .ref 137, .ref 138, .ref 139, .ref 140, .ref 141, .ref 142, .ref 143, .ref 144, .ref 145, .ref 146, .int 0, .long 0, .int 0, .int 0, .ref 147]))) : mj_Met g l kY_TrustDeskModel_stops (d + 1) [.ref 99, .int 32] M nx 0 0 (mj_E1 (some (.int (-2))) (mj_up (mj_up M 99 (.inr (13, [.int 0, .int 0, .int 0, .ref 100, .ref 101, .ref 102, .ref 103, .ref 104, .ref 105, .ref 106, .ref 107, .ref 108, .ref 109, .ref 110, .int 0, .int 0, .int 0, .int 0, .int 0, .int 1, .int 0, .int (-1), .int 0, .int 0, .int 0, .ref 111, .ref 112, .int 0, .ref 113, .ref 114, .ref 115, .int 0, .int 0, .ref 116, .ref 117, .ref 118, .ref 119, .ref 120, .ref 121, .ref 122, .ref 123, .ref 124, .ref 125, .ref 126, .ref 127, .ref 128, .ref 129, .ref 130, .ref 131, .int 0, .ref 132, .int 0, .ref 133, .int 0, .ref 134, .ref 135, .ref 136, .ref 137, .ref 138, .ref 139, .ref 140, .ref 141, .ref 142, .ref 143, .ref 144, .ref 145, .ref 146, .int 0, .long 0, .int 0, .int 0, .ref 147]))) 99 (.inr (13, [.int 0, .int 0, .int 0, .ref 100, .ref 101, .ref 102, .ref 103, .ref 104, .ref 105, .ref 106, .ref 107, .ref 108, .ref 109, .ref 110, .int 0, .int 0, .int 0, .int 0, .int 0, .int 1, .int 0, .int 0, .int 0, .int 0, .int 0, .ref 111, .ref 112, .int 0, .ref 113, .ref 114, .ref 115, .int 0, .int 0, .ref 116, .ref 117, .ref 118, .ref 119, .ref 120, .ref 121, .ref 122, .ref 123, .ref 124, .ref 125, .ref 126, .ref 127, .ref 128, .ref 129, .ref 130, .ref 131, .int 0, .ref 132, .int 0, .ref 133, .int 0, .ref 134, .ref 135, .ref 136, .ref 137, .ref 138, .ref 139, .ref 140, .ref 141, .ref 142, .ref 143, .ref 144, .ref 145, .ref 146, .int 0, .long 0, .int 0, .int 0, .ref 147]))) nx) := by
  refine mj_enter (by decide) (Nat.le_of_ble_eq_true rfl) ?_
  refine mv_aload_n d_TrustDeskModel_stops_0 rfl rfl ?_
  refine mv_iconst (v := 0) d_TrustDeskModel_stops_1 (by decide) ?_
  refine mv_put (fs' := [.int 0, .int 0, .int 0, .ref 100, .ref 101, .ref 102, .ref 103, .ref 104, .ref 105, .ref 106, .ref 107, .ref 108, .ref 109, .ref 110, .int 0, .int 0, .int 0, .int 0, .int 0, .int 1, .int 0, .int (-1), .int 0, .int 0, .int 0, .ref 111, .ref 112, .int 0, .ref 113, .ref 114, .ref 115, .int 0, .int 0, .ref 116, .ref 117, .ref 118, .ref 119, .ref 120, .ref 121, .ref 122, .ref 123, .ref 124, .ref 125, .ref 126, .ref 127, .ref 128, .ref 129, .ref 130, .ref 131, .int 0, .ref 132, .int 0, .ref 133, .int 0, .ref 134, .ref 135, .ref 136, .ref 137, .ref 138, .ref 139, .ref 140, .ref 141, .ref 142, .ref 143, .ref 144, .ref 145, .ref 146, .int 0, .long 0, .int 0, .int 0, .ref 147]) d_TrustDeskModel_stops_2 p_TrustDeskModel_189_13 h_99 (Nat.le_of_ble_eq_true rfl) rfl rfl rfl ?_
  refine mv_aload_n d_TrustDeskModel_stops_5 rfl rfl ?_
  refine mv_aload_n d_TrustDeskModel_stops_6 rfl rfl ?_
  refine mv_callV_s (kc' := 0) (ks' := 0) [] [.ref 99, .ref 99] d_TrustDeskModel_stops_7 lV_TrustDeskModel_230 (mj_up_self _ _ _) rfl (c_TrustDeskModel_isWell_2 (d := d) (h_99 := (mj_up_self _ _ _))) rfl (Nat.le_of_ble_eq_true rfl) (Nat.le_of_ble_eq_true rfl) (Nat.le_of_ble_eq_true rfl) rfl ?_
  refine mv_if_eq_t (tgt := 17) d_TrustDeskModel_stops_10 (by decide) (by decide) ?_
  refine mv_aload_n d_TrustDeskModel_stops_17 rfl rfl ?_
  refine mv_get d_TrustDeskModel_stops_18 f_TrustDeskModel_227_13 (mj_up_self _ _ _) rfl ?_
  refine mv_put (fs' := [.int 0, .int 0, .int 0, .ref 100, .ref 101, .ref 102, .ref 103, .ref 104, .ref 105, .ref 106, .ref 107, .ref 108, .ref 109, .ref 110, .int 0, .int 0, .int 0, .int 0, .int 0, .int 1, .int 0, .int 0, .int 0, .int 0, .int 0, .ref 111, .ref 112, .int 0, .ref 113, .ref 114, .ref 115, .int 0, .int 0, .ref 116, .ref 117, .ref 118, .ref 119, .ref 120, .ref 121, .ref 122, .ref 123, .ref 124, .ref 125, .ref 126, .ref 127, .ref 128, .ref 129, .ref 130, .ref 131, .int 0, .ref 132, .int 0, .ref 133, .int 0, .ref 134, .ref 135, .ref 136, .ref 137, .ref 138, .ref 139, .ref 140, .ref 141, .ref 142, .ref 143, .ref 144, .ref 145, .ref 146, .int 0, .long 0, .int 0, .int 0, .ref 147]) d_TrustDeskModel_stops_21 p_TrustDeskModel_48_13 (mj_up_self _ _ _) (Nat.le_of_ble_eq_true rfl) rfl rfl rfl ?_
  refine mv_aload_n d_TrustDeskModel_stops_24 rfl rfl ?_
  refine mv_callV_s (kc' := 0) (ks' := 0) [] [.ref 99] d_TrustDeskModel_stops_25 lV_TrustDeskModel_230 (mj_up_self _ _ _) rfl (c_TrustDeskModel_isWell_3 (d := d) (h_99 := (mj_up_self _ _ _))) rfl (Nat.le_of_ble_eq_true rfl) (Nat.le_of_ble_eq_true rfl) (Nat.le_of_ble_eq_true rfl) rfl ?_
  refine mv_if_ne_f (tgt := 38) d_TrustDeskModel_stops_28 (by decide) (by decide) ?_
  refine mv_iconst (v := (-1)) d_TrustDeskModel_stops_31 (by decide) ?_
  refine mv_aload_n d_TrustDeskModel_stops_32 rfl rfl ?_
  refine mv_get d_TrustDeskModel_stops_33 f_TrustDeskModel_224_13 (mj_up_self _ _ _) rfl ?_
  refine mv_isubv (v := (-2)) d_TrustDeskModel_stops_36 (by decide) ?_
  exact mv_iret d_TrustDeskModel_stops_37 rfl (by first | rfl | decide) ⟨rfl, rfl, rfl⟩
theorem d_TrustDeskModel_near_85 : decode kY_TrustDeskModel_near.2.1 85 = .ok (.istore_n 2, 1) := by decide +kernel
theorem d_TrustDeskModel_near_86 : decode kY_TrustDeskModel_near.2.1 86 = .ok (.iload_n 2, 1) := by decide +kernel
theorem d_TrustDeskModel_near_87 : decode kY_TrustDeskModel_near.2.1 87 = .ok (.ifCond .ge 5, 3) := by decide +kernel
theorem d_TrustDeskModel_near_90 : decode kY_TrustDeskModel_near.2.1 90 = .ok (.iload_n 2, 1) := by decide +kernel
theorem d_TrustDeskModel_near_91 : decode kY_TrustDeskModel_near.2.1 91 = .ok (.ireturn, 1) := by decide +kernel
theorem d_TrustDeskModel_near_26 : decode kY_TrustDeskModel_near.2.1 26 = .ok (.iconst (-1), 1) := by decide +kernel
theorem d_TrustDeskModel_near_27 : decode kY_TrustDeskModel_near.2.1 27 = .ok (.ireturn, 1) := by decide +kernel
theorem c_TrustDeskModel_near_0 {g : mj_G} {l : Launch} {d nx : Nat} {M : mj_M} {x1 : Int32} (h_99 : M 99 = some (.inr (13, [.int 0, .int 0, .int 0, .ref 100, .ref 101, .ref 102, .ref 103, .ref 104, .ref 105, .ref 106, .ref 107, .ref 108, .ref 109, .ref 110, .int 0, .int 0, .int 0, .int 0, .int 0, .int 0, .int 0, .int (-1), .int 0, .int 0, .int 0, .ref 111, .ref 112, .int 0, .ref 113, .ref 114, .ref 115, .int 0, .int 0, .ref 116, .ref 117, .ref 118, .ref 119, .ref 120, .ref 121, .ref 122, .ref 123, .ref 124, .ref 125, .ref 126, .ref 127, .ref 128, .ref 129, .ref 130, .ref 131, .int 0, .ref 132, .int 0, .ref 133, .int 0, .ref 134, .ref 135, .ref 136, .ref 137, .ref 138, .ref 139, .ref 140, .ref 141, .ref 142, .ref 143, .ref 144, .ref 145, .ref 146, .int 0, .long 0, .int 0, .int 0, .ref 147]))) (h_102 : M 102 = some (.inl (0, 45, .inl (fun _ => 0)))) (h_103 : M 103 = some (.inl (0, 45, .inl (fun _ => 0)))) : mj_Met g l kY_TrustDeskModel_near (d + 2) [.ref 99, .int x1] M nx 0 0 (mj_KP (some (.int (e_near x1))) M 0 0) := by
  refine mj_enter (by decide) (Nat.le_of_ble_eq_true rfl) ?_
  refine mv_aload_n d_TrustDeskModel_near_0 rfl rfl ?_
  refine mv_iconst (v := 0) d_TrustDeskModel_near_1 (by decide) ?_
  refine mv_put (fs' := [.int 0, .int 0, .int 0, .ref 100, .ref 101, .ref 102, .ref 103, .ref 104, .ref 105, .ref 106, .ref 107, .ref 108, .ref 109, .ref 110, .int 0, .int 0, .int 0, .int 0, .int 0, .int 0, .int 0, .int (-1), .int 0, .int 0, .int 0, .ref 111, .ref 112, .int 0, .ref 113, .ref 114, .ref 115, .int 0, .int 0, .ref 116, .ref 117, .ref 118, .ref 119, .ref 120, .ref 121, .ref 122, .ref 123, .ref 124, .ref 125, .ref 126, .ref 127, .ref 128, .ref 129, .ref 130, .ref 131, .int 0, .ref 132, .int 0, .ref 133, .int 0, .ref 134, .ref 135, .ref 136, .ref 137, .ref 138, .ref 139, .ref 140, .ref 141, .ref 142, .ref 143, .ref 144, .ref 145, .ref 146, .int 0, .long 0, .int 0, .int 0, .ref 147]) d_TrustDeskModel_near_2 p_TrustDeskModel_1_13 h_99 (Nat.le_of_ble_eq_true rfl) rfl rfl rfl ?_
  refine mv_iload_n d_TrustDeskModel_near_5 rfl rfl ?_
  refine mv_i2l (v := x1.toInt64) d_TrustDeskModel_near_6 rfl ?_
  refine mv_lconst (v := 0) d_TrustDeskModel_near_7 (by decide) ?_
  refine mv_ldc2 d_TrustDeskModel_near_8 k_TrustDeskModel_433 ?_
  refine mv_callS_b (kc' := 0) (ks' := 0) [.long x1.toInt64, .long 0, .long 255] [.long 255, .long 0, .long x1.toInt64] d_TrustDeskModel_near_11 lS_TrustDeskModel_169 (c_TrustDeskModel_within_6 (d := (d + 1)) (x0 := x1.toInt64)) rfl (Nat.le_of_ble_eq_true rfl) (Nat.le_of_ble_eq_true rfl) (Nat.le_of_ble_eq_true rfl) rfl (fun b1 => ?_) (fun b1 => ?_)
  · rw [mz_wide] at b1
    refine mv_if_eq_f (tgt := 26) d_TrustDeskModel_near_14 (by decide) (by decide) ?_
    refine mv_aload_n d_TrustDeskModel_near_17 rfl rfl ?_
    refine mv_get d_TrustDeskModel_near_18 f_TrustDeskModel_435_13 (mj_up_self _ _ _) rfl ?_
    refine mv_bipush (v := 12) d_TrustDeskModel_near_21 (by decide) ?_
    refine mv_icmp_ne_t (tgt := 28) d_TrustDeskModel_near_23 (by decide) (by decide) ?_
    refine mv_aload_n d_TrustDeskModel_near_28 rfl rfl ?_
    refine mv_iconst (v := 0) d_TrustDeskModel_near_29 (by decide) ?_
    refine mv_callV_n (kc' := 0) (ks' := 0) [.int 0] [.int 0, .ref 99] d_TrustDeskModel_near_30 lV_TrustDeskModel_381 (mj_up_self _ _ _) rfl (c_TrustDeskModel_starts_1 (d := d) (h_99 := (mj_up_self _ _ _)) (h_102 := ((mj_up_ne _ _ (Nat.ne_of_beq_eq_false rfl)).trans h_102)) (h_103 := ((mj_up_ne _ _ (Nat.ne_of_beq_eq_false rfl)).trans h_103))) rfl (Nat.le_of_ble_eq_true rfl) (Nat.le_of_ble_eq_true rfl) (Nat.le_of_ble_eq_true rfl) rfl ?_
    refine mv_aload_n d_TrustDeskModel_near_33 rfl rfl ?_
    refine mv_ldcSw (id := 42) (tx := "end") d_TrustDeskModel_near_34 (List.mem_of_getElem? (i := 32) rfl) ?_
    refine mv_callV_s (kc' := 0) (ks' := 0) [.ref 42] [.ref 42, .ref 99] d_TrustDeskModel_near_37 lV_TrustDeskModel_244 (mj_up_self _ _ _) rfl (c_TrustDeskModel_isWord_0 (d := (d + 1)) (h_99 := (mj_up_self _ _ _))) rfl (Nat.le_of_ble_eq_true rfl) (Nat.le_of_ble_eq_true rfl) (Nat.le_of_ble_eq_true rfl) rfl ?_
    refine mv_if_eq_t (tgt := 50) d_TrustDeskModel_near_40 (by decide) (by decide) ?_
    refine mv_aload_n d_TrustDeskModel_near_50 rfl rfl ?_
    refine mv_iconst (v := 1) d_TrustDeskModel_near_51 (by decide) ?_
    refine mv_callV_n (kc' := 0) (ks' := 0) [.int 1] [.int 1, .ref 99] d_TrustDeskModel_near_52 lV_TrustDeskModel_240 (mj_up_self _ _ _) rfl (c_TrustDeskModel_fails_0 (d := (d + 1)) (h_99 := (mj_up_self _ _ _))) rfl (Nat.le_of_ble_eq_true rfl) (Nat.le_of_ble_eq_true rfl) (Nat.le_of_ble_eq_true rfl) rfl ?_
    refine mv_aload_n d_TrustDeskModel_near_55 rfl rfl ?_
    refine mv_callV_s (kc' := 0) (ks' := 0) [] [.ref 99] d_TrustDeskModel_near_56 lV_TrustDeskModel_230 (mj_up_self _ _ _) rfl (c_TrustDeskModel_isWell_2 (d := (d + 1)) (h_99 := (mj_up_self _ _ _))) rfl (Nat.le_of_ble_eq_true rfl) (Nat.le_of_ble_eq_true rfl) (Nat.le_of_ble_eq_true rfl) rfl ?_
    refine mv_if_eq_t (tgt := 74) d_TrustDeskModel_near_59 (by decide) (by decide) ?_
    refine mv_aload_n d_TrustDeskModel_near_74 rfl rfl ?_
    refine mv_bipush (v := 32) d_TrustDeskModel_near_75 (by decide) ?_
    refine mv_aload_n d_TrustDeskModel_near_77 rfl rfl ?_
    refine mv_get d_TrustDeskModel_near_78 f_TrustDeskModel_435_13 (mj_up_self _ _ _) rfl ?_
    refine mv_iaddv (v := 32) d_TrustDeskModel_near_81 (by decide) ?_
    refine mv_callV_s (kc' := 0) (ks' := 0) [.int 32] [.int 32, .ref 99] d_TrustDeskModel_near_82 lV_TrustDeskModel_388 (mj_up_self _ _ _) rfl (c_TrustDeskModel_stops_2 (d := d) (h_99 := (mj_up_self _ _ _))) rfl (Nat.le_of_ble_eq_true rfl) (Nat.le_of_ble_eq_true rfl) (Nat.le_of_ble_eq_true rfl) rfl ?_
    refine mv_istore_n (lv' := [(2, .int (-2)), (0, .ref 99), (1, .int x1)]) d_TrustDeskModel_near_85 rfl (by decide) rfl ?_
    refine mv_iload_n d_TrustDeskModel_near_86 rfl rfl ?_
    refine mv_if_ge_f (tgt := 92) d_TrustDeskModel_near_87 (by decide) (by decide) ?_
    refine mv_iload_n d_TrustDeskModel_near_90 rfl rfl ?_
    exact mv_iret d_TrustDeskModel_near_91 rfl (by first | rfl | decide) ⟨(by unfold e_near; first | rw [if_pos (by omega)] | rw [if_neg (by omega)]), fun a ha1 ha2 => (mj_up_ne _ _ (show a ≠ 99 by omega)).trans ((mj_up_ne _ _ (show a ≠ 99 by omega)).trans ((mj_up_ne _ _ (show a ≠ 99 by omega)).trans ((mj_up_ne _ _ (show a ≠ 99 by omega)).trans ((mj_up_ne _ _ (show a ≠ 99 by omega)).trans ((mj_up_ne _ _ (show a ≠ 99 by omega)).trans ((mj_up_ne _ _ (show a ≠ 103 by omega)).trans ((mj_up_ne _ _ (show a ≠ 102 by omega)).trans ((mj_up_ne _ _ (show a ≠ 99 by omega)).trans ((mj_up_ne _ _ (show a ≠ 99 by omega)).trans ((mj_up_ne _ _ (show a ≠ 99 by omega)).trans ((mj_up_ne _ _ (show a ≠ 99 by omega)).trans ((mj_up_ne _ _ (show a ≠ 99 by omega)).trans ((mj_up_ne _ _ (show a ≠ 99 by omega)).trans (rfl))))))))))))))⟩
  · rw [mz_wide] at b1
    refine mv_if_eq_t (tgt := 26) d_TrustDeskModel_near_14 (by decide) (by decide) ?_
    refine mv_iconst (v := (-1)) d_TrustDeskModel_near_26 (by decide) ?_
    exact mv_iret d_TrustDeskModel_near_27 rfl (by first | rfl | decide) ⟨(by unfold e_near; first | rw [if_pos (by omega)] | rw [if_neg (by omega)]), fun a ha1 ha2 => (mj_up_ne _ _ (show a ≠ 99 by omega)).trans (rfl)⟩
abbrev kY_TrustDeskModel_place : mj_Y := (⟨"TrustDeskModel", "place", "()I"⟩, prog_14_method_43_code, 1, (Option.some Jvm.ClassFile.FieldType.int))
theorem d_TrustDeskModel_place_0 : decode kY_TrustDeskModel_place.2.1 0 = .ok (.aload_n 0, 1) := by decide +kernel
theorem d_TrustDeskModel_place_1 : decode kY_TrustDeskModel_place.2.1 1 = .ok (.iconst 0, 1) := by decide +kernel
theorem d_TrustDeskModel_place_2 : decode kY_TrustDeskModel_place.2.1 2 = .ok (.putfield 1, 3) := by decide +kernel
theorem d_TrustDeskModel_place_5 : decode kY_TrustDeskModel_place.2.1 5 = .ok (.aload_n 0, 1) := by decide +kernel
theorem d_TrustDeskModel_place_6 : decode kY_TrustDeskModel_place.2.1 6 = .ok (.getfield 48, 3) := by decide +kernel
theorem f_TrustDeskModel_48_13 : mj_fl "TrustDeskModel" 48 13 21 := ⟨kR_TrustDeskModel, kF_TrustDeskModel, 72, "TrustDeskModel", rfl, kg_13, by decide, (mj_in1 (List.mem_of_getElem? (i := 1411) (by decide +kernel)) rfl), Or.inl rfl⟩
theorem d_TrustDeskModel_place_9 : decode kY_TrustDeskModel_place.2.1 9 = .ok (.ireturn, 1) := by decide +kernel
theorem c_TrustDeskModel_place_0 {g : mj_G} {l : Launch} {d nx : Nat} {M : mj_M} (h_99 : M 99 = some (.inr (13, [.int 0, .int 0, .int 0, .ref 100, .ref 101, .ref 102, .ref 103, .ref 104, .ref 105, .ref 106, .ref 107, .ref 108, .ref 109, .ref 110, .int 0, .int 0, .int 0, .int 0, .int 0, .int 0, .int 0, .int (-1), .int 0, .int 0, .int 0, .ref 111, .ref 112, .int 0, .ref 113, .ref 114, .ref 115, .int 0, .int 0, .ref 116, .ref 117, .ref 118, .ref 119, .ref 120, .ref 121, .ref 122, .ref 123, .ref 124, .ref 125, .ref 126, .ref 127, .ref 128, .ref 129, .ref 130, .ref 131, .int 0, .ref 132, .int 0, .ref 133, .int 0, .ref 134, .ref 135, .ref 136, .ref 137, .ref 138, .ref 139, .ref 140, .ref 141, .ref 142, .ref 143, .ref 144, .ref 145, .ref 146, .int 0, .long 0, .int 0, .int 0, .ref 147]))) : mj_Met g l kY_TrustDeskModel_place d [.ref 99] M nx 0 0 (mj_E1 (some (.int (-1))) (mj_up M 99 (.inr (13, [.int 0, .int 0, .int 0, .ref 100, .ref 101, .ref 102, .ref 103, .ref 104, .ref 105, .ref 106, .ref 107, .ref 108, .ref 109, .ref 110, .int 0, .int 0, .int 0, .int 0, .int 0, .int 0, .int 0, .int (-1), .int 0, .int 0, .int 0, .ref 111, .ref 112, .int 0, .ref 113, .ref 114, .ref 115, .int 0, .int 0, .ref 116, .ref 117, .ref 118, .ref 119, .ref 120, .ref 121, .ref 122, .ref 123, .ref 124, .ref 125, .ref 126, .ref 127, .ref 128, .ref 129, .ref 130, .ref 131, .int 0, .ref 132, .int 0, .ref 133, .int 0, .ref 134, .ref 135, .ref 136, .ref 137, .ref 138, .ref 139, .ref 140, .ref 141, .ref 142, .ref 143, .ref 144, .ref 145, .ref 146, .int 0, .long 0, .int 0, .int 0, .ref 147]))) nx) := by
  refine mj_enter (by decide) (Nat.le_of_ble_eq_true rfl) ?_
  refine mv_aload_n d_TrustDeskModel_place_0 rfl rfl ?_
  refine mv_iconst (v := 0) d_TrustDeskModel_place_1 (by decide) ?_
  refine mv_put (fs' := [.int 0, .int 0, .int 0, .ref 100, .ref 101, .ref 102, .ref 103, .ref 104, .ref 105, .ref 106, .ref 107, .ref 108, .ref 109, .ref 110, .int 0, .int 0, .int 0, .int 0, .int 0, .int 0, .int 0, .int (-1), .int 0, .int 0, .int 0, .ref 111, .ref 112, .int 0, .ref 113, .ref 114, .ref 115, .int 0, .int 0, .ref 116, .ref 117, .ref 118, .ref 119, .ref 120, .ref 121, .ref 122, .ref 123, .ref 124, .ref 125, .ref 126, .ref 127, .ref 128, .ref 129, .ref 130, .ref 131, .int 0, .ref 132, .int 0, .ref 133, .int 0, .ref 134, .ref 135, .ref 136, .ref 137, .ref 138, .ref 139, .ref 140, .ref 141, .ref 142, .ref 143, .ref 144, .ref 145, .ref 146, .int 0, .long 0, .int 0, .int 0, .ref 147]) d_TrustDeskModel_place_2 p_TrustDeskModel_1_13 h_99 (Nat.le_of_ble_eq_true rfl) rfl rfl rfl ?_
  refine mv_aload_n d_TrustDeskModel_place_5 rfl rfl ?_
  refine mv_get d_TrustDeskModel_place_6 f_TrustDeskModel_48_13 (mj_up_self _ _ _) rfl ?_
  exact mv_iret d_TrustDeskModel_place_9 rfl (by first | rfl | decide) ⟨rfl, rfl, rfl⟩
abbrev kY_TrustDeskModel_days : mj_Y := (⟨"TrustDeskModel", "days", "(I)I"⟩, prog_14_method_67_code, 5, (Option.some Jvm.ClassFile.FieldType.int))
theorem d_TrustDeskModel_days_38 : decode kY_TrustDeskModel_days.2.1 38 = .ok (.iload_n 3, 1) := by decide +kernel
theorem d_TrustDeskModel_days_39 : decode kY_TrustDeskModel_days.2.1 39 = .ok (.iload_n 2, 1) := by decide +kernel
theorem d_TrustDeskModel_days_40 : decode kY_TrustDeskModel_days.2.1 40 = .ok (.iload_n 1, 1) := by decide +kernel
theorem d_TrustDeskModel_days_41 : decode kY_TrustDeskModel_days.2.1 41 = .ok (.iadd, 1) := by decide +kernel
theorem d_TrustDeskModel_days_42 : decode kY_TrustDeskModel_days.2.1 42 = .ok (.if_icmp .ge 64, 3) := by decide +kernel
theorem d_TrustDeskModel_days_106 : decode kY_TrustDeskModel_days.2.1 106 = .ok (.aload_n 0, 1) := by decide +kernel
theorem d_TrustDeskModel_days_107 : decode kY_TrustDeskModel_days.2.1 107 = .ok (.iload_n 2, 1) := by decide +kernel
theorem d_TrustDeskModel_days_108 : decode kY_TrustDeskModel_days.2.1 108 = .ok (.iload_n 1, 1) := by decide +kernel
theorem d_TrustDeskModel_days_109 : decode kY_TrustDeskModel_days.2.1 109 = .ok (.iadd, 1) := by decide +kernel
theorem d_TrustDeskModel_days_110 : decode kY_TrustDeskModel_days.2.1 110 = .ok (.putfield 164, 3) := by decide +kernel
theorem p_TrustDeskModel_164_13 : mj_fp "TrustDeskModel" 164 13 1 (kt_TrustDeskModel 1) false := ⟨kR_TrustDeskModel, kF_TrustDeskModel, 72, "TrustDeskModel", kt_TrustDeskModel, rfl, kg_13, by decide, (mj_in1 (List.mem_of_getElem? (i := 1391) (by decide +kernel)) rfl), Or.inl rfl, kto_TrustDeskModel, kn_TrustDeskModel, rfl, rfl, fun h => by cases h⟩
theorem d_TrustDeskModel_days_113 : decode kY_TrustDeskModel_days.2.1 113 = .ok (.aload_n 0, 1) := by decide +kernel
theorem d_TrustDeskModel_days_114 : decode kY_TrustDeskModel_days.2.1 114 = .ok (.getfield 164, 3) := by decide +kernel
theorem d_TrustDeskModel_days_117 : decode kY_TrustDeskModel_days.2.1 117 = .ok (.ireturn, 1) := by decide +kernel
theorem d_TrustDeskModel_days_45 : decode kY_TrustDeskModel_days.2.1 45 = .ok (.aload_n 0, 1) := by decide +kernel
theorem d_TrustDeskModel_days_46 : decode kY_TrustDeskModel_days.2.1 46 = .ok (.iload_n 3, 1) := by decide +kernel
theorem d_TrustDeskModel_days_47 : decode kY_TrustDeskModel_days.2.1 47 = .ok (.putfield 164, 3) := by decide +kernel
theorem d_TrustDeskModel_days_50 : decode kY_TrustDeskModel_days.2.1 50 = .ok (.iload_n 3, 1) := by decide +kernel
theorem d_TrustDeskModel_days_51 : decode kY_TrustDeskModel_days.2.1 51 = .ok (.sipush 360, 3) := by decide +kernel
theorem d_TrustDeskModel_days_54 : decode kY_TrustDeskModel_days.2.1 54 = .ok (.irem, 1) := by decide +kernel
theorem d_TrustDeskModel_days_55 : decode kY_TrustDeskModel_days.2.1 55 = .ok (.sipush 359, 3) := by decide +kernel
theorem d_TrustDeskModel_days_58 : decode kY_TrustDeskModel_days.2.1 58 = .ok (.if_icmp .eq 6, 3) := by decide +kernel
theorem d_TrustDeskModel_days_64 : decode kY_TrustDeskModel_days.2.1 64 = .ok (.iconst 0, 1) := by decide +kernel
theorem d_TrustDeskModel_days_65 : decode kY_TrustDeskModel_days.2.1 65 = .ok (.istore 4, 2) := by decide +kernel
theorem d_TrustDeskModel_days_67 : decode kY_TrustDeskModel_days.2.1 67 = .ok (.iload 4, 2) := by decide +kernel
theorem d_TrustDeskModel_days_69 : decode kY_TrustDeskModel_days.2.1 69 = .ok (.aload_n 0, 1) := by decide +kernel
theorem d_TrustDeskModel_days_70 : decode kY_TrustDeskModel_days.2.1 70 = .ok (.getfield 415, 3) := by decide +kernel
theorem d_TrustDeskModel_days_73 : decode kY_TrustDeskModel_days.2.1 73 = .ok (.if_icmp .ge 27, 3) := by decide +kernel
theorem d_TrustDeskModel_days_100 : decode kY_TrustDeskModel_days.2.1 100 = .ok (.iinc 3 1, 3) := by decide +kernel
theorem d_TrustDeskModel_days_103 : decode kY_TrustDeskModel_days.2.1 103 = .ok (.goto (-65), 3) := by decide +kernel
theorem d_TrustDeskModel_days_61 : decode kY_TrustDeskModel_days.2.1 61 = .ok (.goto 39, 3) := by decide +kernel
theorem mz_inc {x : Int32} (h : x.toInt < 720) : (x + 1).toInt = x.toInt + 1 := by
  have h1 := Int32.le_toInt x
  rw [Int32.toInt_add]
  show (x.toInt + 1).bmod (2 ^ 32) = _
  exact fb_bmod32 (by omega) (by omega)
theorem lp_days {g : mj_G} {l : Launch} {d nx : Nat} {x : Int32} (hx1 : 1 ≤ x.toInt) (hx2 : x.toInt ≤ 720) : ∀ (k : Nat) (j t : Int32) (M : mj_M), 0 ≤ j.toInt → j.toInt ≤ x.toInt → x.toInt - j.toInt < k → M 99 = some (.inr (13, [.int 0, .int t, .int 0, .ref 100, .ref 101, .ref 102, .ref 103, .ref 104, .ref 105, .ref 106, .ref 107, .ref 108, .ref 109, .ref 110, .int 0, .int 0, .int 0, .int 0, .int 0, .int 0, .int 0, .int (-1), .int 0, .int 0, .int 0, .ref 111, .ref 112, .int 0, .ref 113, .ref 114, .ref 115, .int 0, .int 0, .ref 116, .ref 117, .ref 118, .ref 119, .ref 120, .ref 121, .ref 122, .ref 123, .ref 124, .ref 125, .ref 126, .ref 127, .ref 128, .ref 129, .ref 130, .ref 131, .int 0, .ref 132, .int 0, .ref 133, .int 0, .ref 134, .ref 135, .ref 136, .ref 137, .ref 138, .ref 139, .ref 140, .ref 141, .ref 142, .ref 143, .ref 144, .ref 145, .ref 146, .int 0, .long 0, .int 0, .int 0, .ref 147])) → mj_V g l kY_TrustDeskModel_days d 38 [(3, .int j), (2, .int 0), (0, .ref 99), (1, .int x)] [] M nx 0 0 (mj_KP (some (.int (e_days x))) (fun _ => none) 0 0) := by
  intro k
  induction k with
  | zero => intro j t M h1 h2 h3 h_99; omega
  | succ k ih =>
    intro j t M h1 h2 h3 h_99
    refine mv_iload_n d_TrustDeskModel_days_38 rfl rfl ?_
    refine mv_iload_n d_TrustDeskModel_days_39 rfl rfl ?_
    refine mv_iload_n d_TrustDeskModel_days_40 rfl rfl ?_
    refine mv_iaddv (v := x) d_TrustDeskModel_days_41 (Int32.zero_add _) ?_
    refine mv_icmp_geZ (tgt := 106) (a := j.toInt) (b := x.toInt) d_TrustDeskModel_days_42 (by decide) rfl rfl (fun b1 => ?_) (fun b1 => ?_)
    · refine mv_aload_n d_TrustDeskModel_days_106 rfl rfl ?_
      refine mv_iload_n d_TrustDeskModel_days_107 rfl rfl ?_
      refine mv_iload_n d_TrustDeskModel_days_108 rfl rfl ?_
      refine mv_iaddv (v := x) d_TrustDeskModel_days_109 (Int32.zero_add _) ?_
      refine mv_put (fs' := [.int 0, .int x, .int 0, .ref 100, .ref 101, .ref 102, .ref 103, .ref 104, .ref 105, .ref 106, .ref 107, .ref 108, .ref 109, .ref 110, .int 0, .int 0, .int 0, .int 0, .int 0, .int 0, .int 0, .int (-1), .int 0, .int 0, .int 0, .ref 111, .ref 112, .int 0, .ref 113, .ref 114, .ref 115, .int 0, .int 0, .ref 116, .ref 117, .ref 118, .ref 119, .ref 120, .ref 121, .ref 122, .ref 123, .ref 124, .ref 125, .ref 126, .ref 127, .ref 128, .ref 129, .ref 130, .ref 131, .int 0, .ref 132, .int 0, .ref 133, .int 0, .ref 134, .ref 135, .ref 136, .ref 137, .ref 138, .ref 139, .ref 140, .ref 141, .ref 142, .ref 143, .ref 144, .ref 145, .ref 146, .int 0, .long 0, .int 0, .int 0, .ref 147]) d_TrustDeskModel_days_110 p_TrustDeskModel_164_13 h_99 (Nat.le_of_ble_eq_true rfl) rfl rfl rfl ?_
      refine mv_aload_n d_TrustDeskModel_days_113 rfl rfl ?_
      refine mv_get d_TrustDeskModel_days_114 f_TrustDeskModel_164_13 (mj_up_self _ _ _) rfl ?_
      exact mv_iret d_TrustDeskModel_days_117 rfl (by first | rfl | decide) ⟨by unfold e_days; rw [if_pos (by omega)], fun a _ h => absurd h (Nat.not_lt_zero a)⟩
    · refine mv_aload_n d_TrustDeskModel_days_45 rfl rfl ?_
      refine mv_iload_n d_TrustDeskModel_days_46 rfl rfl ?_
      refine mv_put (fs' := [.int 0, .int j, .int 0, .ref 100, .ref 101, .ref 102, .ref 103, .ref 104, .ref 105, .ref 106, .ref 107, .ref 108, .ref 109, .ref 110, .int 0, .int 0, .int 0, .int 0, .int 0, .int 0, .int 0, .int (-1), .int 0, .int 0, .int 0, .ref 111, .ref 112, .int 0, .ref 113, .ref 114, .ref 115, .int 0, .int 0, .ref 116, .ref 117, .ref 118, .ref 119, .ref 120, .ref 121, .ref 122, .ref 123, .ref 124, .ref 125, .ref 126, .ref 127, .ref 128, .ref 129, .ref 130, .ref 131, .int 0, .ref 132, .int 0, .ref 133, .int 0, .ref 134, .ref 135, .ref 136, .ref 137, .ref 138, .ref 139, .ref 140, .ref 141, .ref 142, .ref 143, .ref 144, .ref 145, .ref 146, .int 0, .long 0, .int 0, .int 0, .ref 147]) d_TrustDeskModel_days_47 p_TrustDeskModel_164_13 h_99 (Nat.le_of_ble_eq_true rfl) rfl rfl rfl ?_
      refine mv_iload_n d_TrustDeskModel_days_50 rfl rfl ?_
      refine mv_sipush (v := 360) d_TrustDeskModel_days_51 (by decide) ?_
      refine mv_irem d_TrustDeskModel_days_54 (by decide) ?_
      refine mv_sipush (v := 359) d_TrustDeskModel_days_55 (by decide) ?_
      refine mv_icmp_eqZ (tgt := 64) (a := (j - j / 360 * 360).toInt) (b := 359) d_TrustDeskModel_days_58 (by decide) rfl (by decide) (fun b2 => ?_) (fun b2 => ?_)
      · refine mv_iconst (v := 0) d_TrustDeskModel_days_64 (by decide) ?_
        refine mv_istore (lv' := [(4, .int 0), (3, .int j), (2, .int 0), (0, .ref 99), (1, .int x)]) d_TrustDeskModel_days_65 (by decide) rfl ?_
        refine mv_iload d_TrustDeskModel_days_67 rfl ?_
        refine mv_aload_n d_TrustDeskModel_days_69 rfl rfl ?_
        refine mv_get d_TrustDeskModel_days_70 f_TrustDeskModel_415_13 (mj_up_self _ _ _) rfl ?_
        refine mv_icmp_ge_t (tgt := 100) d_TrustDeskModel_days_73 (by decide) (by decide) ?_
        refine mv_iinc (v := (j + 1)) (lv' := [(3, .int (j + 1)), (4, .int 0), (2, .int 0), (0, .ref 99), (1, .int x)]) d_TrustDeskModel_days_100 rfl rfl (by decide) rfl ?_
        refine mv_goto (tgt := 38) d_TrustDeskModel_days_103 (by decide) ?_
        refine mv_locals (lv' := [(3, .int (j + 1)), (2, .int 0), (0, .ref 99), (1, .int x)]) (by intro q hq; simp only [List.mem_cons, List.not_mem_nil, or_false] at hq; rcases hq with rfl | rfl | rfl | rfl <;> rfl) ?_
        have hj9 : ((j + 1)).toInt = j.toInt + 1 := mz_inc (by omega)
        exact ih _ _ _ (by omega) (by omega) (by omega) (mj_up_self _ _ _)
      · refine mv_goto (tgt := 100) d_TrustDeskModel_days_61 (by decide) ?_
        refine mv_iinc (v := (j + 1)) (lv' := [(3, .int (j + 1)), (2, .int 0), (0, .ref 99), (1, .int x)]) d_TrustDeskModel_days_100 rfl rfl (by decide) rfl ?_
        refine mv_goto (tgt := 38) d_TrustDeskModel_days_103 (by decide) ?_
        refine mv_locals (lv' := [(3, .int (j + 1)), (2, .int 0), (0, .ref 99), (1, .int x)]) (by intro q hq; simp only [List.mem_cons, List.not_mem_nil, or_false] at hq; rcases hq with rfl | rfl | rfl | rfl <;> rfl) ?_
        have hj9 : ((j + 1)).toInt = j.toInt + 1 := mz_inc (by omega)
        exact ih _ _ _ (by omega) (by omega) (by omega) (mj_up_self _ _ _)
theorem d_TrustDeskModel_days_0 : decode kY_TrustDeskModel_days.2.1 0 = .ok (.aload_n 0, 1) := by decide +kernel
theorem d_TrustDeskModel_days_1 : decode kY_TrustDeskModel_days.2.1 1 = .ok (.iconst 0, 1) := by decide +kernel
theorem d_TrustDeskModel_days_2 : decode kY_TrustDeskModel_days.2.1 2 = .ok (.putfield 1, 3) := by decide +kernel
theorem d_TrustDeskModel_days_5 : decode kY_TrustDeskModel_days.2.1 5 = .ok (.iload_n 1, 1) := by decide +kernel
theorem d_TrustDeskModel_days_6 : decode kY_TrustDeskModel_days.2.1 6 = .ok (.i2l, 1) := by decide +kernel
theorem d_TrustDeskModel_days_7 : decode kY_TrustDeskModel_days.2.1 7 = .ok (.lconst 1, 1) := by decide +kernel
theorem d_TrustDeskModel_days_8 : decode kY_TrustDeskModel_days.2.1 8 = .ok (.ldc2_w 486, 3) := by decide +kernel
theorem k_TrustDeskModel_486 : Cond.constantLong "TrustDeskModel" 486 720 ∈ mj_T := (mj_in1 (List.mem_of_getElem? (i := 1884) (by decide +kernel)) rfl)
theorem d_TrustDeskModel_days_11 : decode kY_TrustDeskModel_days.2.1 11 = .ok (.invokestatic 169, 3) := by decide +kernel
theorem c_TrustDeskModel_within_7 {g : mj_G} {l : Launch} {d nx : Nat} {M : mj_M} {x0 : Int64} : mj_Met g l kY_TrustDeskModel_within d [.long x0, .long 1, .long 720] M nx 0 0 (mj_B (1 ≤ x0.toInt ∧ x0.toInt ≤ 720) M nx) := by
  refine mj_enter (by decide) (Nat.le_of_ble_eq_true rfl) ?_
  refine mv_lload_n d_TrustDeskModel_within_0 rfl rfl ?_
  refine mv_lload_n d_TrustDeskModel_within_1 rfl rfl ?_
  refine mv_lltZ (tgt := 17) (a := x0.toInt) (b := 1) d_TrustDeskModel_within_2 d_TrustDeskModel_within_3 (by decide) rfl (by decide) (fun b1 => ?_) (fun b1 => ?_)
  · refine mv_iconst (v := 0) d_TrustDeskModel_within_17 (by decide) ?_
    exact mv_iret d_TrustDeskModel_within_18 rfl (by first | rfl | decide) ⟨Or.inr ⟨by omega, rfl⟩, rfl, rfl⟩
  · refine mv_lload_n d_TrustDeskModel_within_6 rfl rfl ?_
    refine mv_lload d_TrustDeskModel_within_7 rfl ?_
    refine mv_lgtZ (tgt := 17) (a := x0.toInt) (b := 720) d_TrustDeskModel_within_9 d_TrustDeskModel_within_10 (by decide) rfl (by decide) (fun b2 => ?_) (fun b2 => ?_)
    · refine mv_iconst (v := 0) d_TrustDeskModel_within_17 (by decide) ?_
      exact mv_iret d_TrustDeskModel_within_18 rfl (by first | rfl | decide) ⟨Or.inr ⟨by omega, rfl⟩, rfl, rfl⟩
    · refine mv_iconst (v := 1) d_TrustDeskModel_within_13 (by decide) ?_
      refine mv_goto (tgt := 18) d_TrustDeskModel_within_14 (by decide) ?_
      exact mv_iret d_TrustDeskModel_within_18 rfl (by first | rfl | decide) ⟨Or.inl ⟨by omega, rfl⟩, rfl, rfl⟩
theorem d_TrustDeskModel_days_14 : decode kY_TrustDeskModel_days.2.1 14 = .ok (.ifCond .eq 15, 3) := by decide +kernel
theorem d_TrustDeskModel_days_17 : decode kY_TrustDeskModel_days.2.1 17 = .ok (.aload_n 0, 1) := by decide +kernel
theorem d_TrustDeskModel_days_18 : decode kY_TrustDeskModel_days.2.1 18 = .ok (.getfield 164, 3) := by decide +kernel
theorem d_TrustDeskModel_days_21 : decode kY_TrustDeskModel_days.2.1 21 = .ok (.iload_n 1, 1) := by decide +kernel
theorem d_TrustDeskModel_days_22 : decode kY_TrustDeskModel_days.2.1 22 = .ok (.iadd, 1) := by decide +kernel
theorem d_TrustDeskModel_days_23 : decode kY_TrustDeskModel_days.2.1 23 = .ok (.ldc_w 488, 3) := by decide +kernel
theorem k_TrustDeskModel_488 : Cond.constant "TrustDeskModel" 488 36000 ∈ mj_T := (mj_in1 (List.mem_of_getElem? (i := 1885) (by decide +kernel)) rfl)
theorem d_TrustDeskModel_days_26 : decode kY_TrustDeskModel_days.2.1 26 = .ok (.if_icmp .le 5, 3) := by decide +kernel
theorem d_TrustDeskModel_days_31 : decode kY_TrustDeskModel_days.2.1 31 = .ok (.aload_n 0, 1) := by decide +kernel
theorem d_TrustDeskModel_days_32 : decode kY_TrustDeskModel_days.2.1 32 = .ok (.getfield 164, 3) := by decide +kernel
theorem d_TrustDeskModel_days_35 : decode kY_TrustDeskModel_days.2.1 35 = .ok (.istore_n 2, 1) := by decide +kernel
theorem d_TrustDeskModel_days_36 : decode kY_TrustDeskModel_days.2.1 36 = .ok (.iload_n 2, 1) := by decide +kernel
theorem d_TrustDeskModel_days_37 : decode kY_TrustDeskModel_days.2.1 37 = .ok (.istore_n 3, 1) := by decide +kernel
theorem d_TrustDeskModel_days_29 : decode kY_TrustDeskModel_days.2.1 29 = .ok (.iconst (-1), 1) := by decide +kernel
theorem d_TrustDeskModel_days_30 : decode kY_TrustDeskModel_days.2.1 30 = .ok (.ireturn, 1) := by decide +kernel
theorem c_TrustDeskModel_days_0 {g : mj_G} {l : Launch} {d nx : Nat} {M : mj_M} {x1 : Int32} (h_99 : M 99 = some (.inr (13, [.int 0, .int 0, .int 0, .ref 100, .ref 101, .ref 102, .ref 103, .ref 104, .ref 105, .ref 106, .ref 107, .ref 108, .ref 109, .ref 110, .int 0, .int 0, .int 0, .int 0, .int 0, .int 0, .int 0, .int (-1), .int 0, .int 0, .int 0, .ref 111, .ref 112, .int 0, .ref 113, .ref 114, .ref 115, .int 0, .int 0, .ref 116, .ref 117, .ref 118, .ref 119, .ref 120, .ref 121, .ref 122, .ref 123, .ref 124, .ref 125, .ref 126, .ref 127, .ref 128, .ref 129, .ref 130, .ref 131, .int 0, .ref 132, .int 0, .ref 133, .int 0, .ref 134, .ref 135, .ref 136, .ref 137, .ref 138, .ref 139, .ref 140, .ref 141, .ref 142, .ref 143, .ref 144, .ref 145, .ref 146, .int 0, .long 0, .int 0, .int 0, .ref 147]))) : mj_Met g l kY_TrustDeskModel_days (d + 1) [.ref 99, .int x1] M nx 0 0 (mj_KP (some (.int (e_days x1))) M 0 0) := by
  refine mj_enter (by decide) (Nat.le_of_ble_eq_true rfl) ?_
  refine mv_aload_n d_TrustDeskModel_days_0 rfl rfl ?_
  refine mv_iconst (v := 0) d_TrustDeskModel_days_1 (by decide) ?_
  refine mv_put (fs' := [.int 0, .int 0, .int 0, .ref 100, .ref 101, .ref 102, .ref 103, .ref 104, .ref 105, .ref 106, .ref 107, .ref 108, .ref 109, .ref 110, .int 0, .int 0, .int 0, .int 0, .int 0, .int 0, .int 0, .int (-1), .int 0, .int 0, .int 0, .ref 111, .ref 112, .int 0, .ref 113, .ref 114, .ref 115, .int 0, .int 0, .ref 116, .ref 117, .ref 118, .ref 119, .ref 120, .ref 121, .ref 122, .ref 123, .ref 124, .ref 125, .ref 126, .ref 127, .ref 128, .ref 129, .ref 130, .ref 131, .int 0, .ref 132, .int 0, .ref 133, .int 0, .ref 134, .ref 135, .ref 136, .ref 137, .ref 138, .ref 139, .ref 140, .ref 141, .ref 142, .ref 143, .ref 144, .ref 145, .ref 146, .int 0, .long 0, .int 0, .int 0, .ref 147]) d_TrustDeskModel_days_2 p_TrustDeskModel_1_13 h_99 (Nat.le_of_ble_eq_true rfl) rfl rfl rfl ?_
  refine mv_iload_n d_TrustDeskModel_days_5 rfl rfl ?_
  refine mv_i2l (v := x1.toInt64) d_TrustDeskModel_days_6 rfl ?_
  refine mv_lconst (v := 1) d_TrustDeskModel_days_7 (by decide) ?_
  refine mv_ldc2 d_TrustDeskModel_days_8 k_TrustDeskModel_486 ?_
  refine mv_callS_b (kc' := 0) (ks' := 0) [.long x1.toInt64, .long 1, .long 720] [.long 720, .long 1, .long x1.toInt64] d_TrustDeskModel_days_11 lS_TrustDeskModel_169 (c_TrustDeskModel_within_7 (d := d) (x0 := x1.toInt64)) rfl (Nat.le_of_ble_eq_true rfl) (Nat.le_of_ble_eq_true rfl) (Nat.le_of_ble_eq_true rfl) rfl (fun b1 => ?_) (fun b1 => ?_)
  · rw [mz_wide] at b1
    refine mv_if_eq_f (tgt := 29) d_TrustDeskModel_days_14 (by decide) (by decide) ?_
    refine mv_aload_n d_TrustDeskModel_days_17 rfl rfl ?_
    refine mv_get d_TrustDeskModel_days_18 f_TrustDeskModel_164_13 (mj_up_self _ _ _) rfl ?_
    refine mv_iload_n d_TrustDeskModel_days_21 rfl rfl ?_
    refine mv_iaddv (v := x1) d_TrustDeskModel_days_22 (Int32.zero_add _) ?_
    refine mv_ldcw d_TrustDeskModel_days_23 k_TrustDeskModel_488 ?_
    refine mv_icmp_leZ (tgt := 31) (a := x1.toInt) (b := 36000) d_TrustDeskModel_days_26 (by decide) rfl (by decide) (fun b2 => ?_) (fun b2 => absurd b2 (by omega))
    refine mv_aload_n d_TrustDeskModel_days_31 rfl rfl ?_
    refine mv_get d_TrustDeskModel_days_32 f_TrustDeskModel_164_13 (mj_up_self _ _ _) rfl ?_
    refine mv_istore_n (lv' := [(2, .int 0), (0, .ref 99), (1, .int x1)]) d_TrustDeskModel_days_35 rfl (by decide) rfl ?_
    refine mv_iload_n d_TrustDeskModel_days_36 rfl rfl ?_
    refine mv_istore_n (lv' := [(3, .int 0), (2, .int 0), (0, .ref 99), (1, .int x1)]) d_TrustDeskModel_days_37 rfl (by decide) rfl ?_
    refine mv_locals (lv' := [(3, .int 0), (2, .int 0), (0, .ref 99), (1, .int x1)]) (by intro q hq; simp only [List.mem_cons, List.not_mem_nil, or_false] at hq; rcases hq with rfl | rfl | rfl | rfl <;> rfl) ?_
    refine mv_conseq (fun r M2 nx2 h => ⟨h.1, fun a _ h2 => absurd h2 (Nat.not_lt_zero a)⟩) (lp_days (by omega) (by omega) 721 0 0 _ (by decide) (by show (0 : Int) ≤ _; omega) (by show _ - (0 : Int) < _; omega) (mj_up_self _ _ _))
  · rw [mz_wide] at b1
    refine mv_if_eq_t (tgt := 29) d_TrustDeskModel_days_14 (by decide) (by decide) ?_
    refine mv_iconst (v := (-1)) d_TrustDeskModel_days_29 (by decide) ?_
    exact mv_iret d_TrustDeskModel_days_30 rfl (by first | rfl | decide) ⟨(by unfold e_days; rw [if_neg (by omega)]), fun a ha1 ha2 => (mj_up_ne _ _ (show a ≠ 99 by omega)).trans (rfl)⟩
abbrev kY_TrustDeskModel_trustee : mj_Y := (⟨"TrustDeskModel", "trustee", "(II)Z"⟩, prog_14_method_70_code, 3, (Option.some Jvm.ClassFile.FieldType.boolean))
theorem d_TrustDeskModel_trustee_0 : decode kY_TrustDeskModel_trustee.2.1 0 = .ok (.aload_n 0, 1) := by decide +kernel
theorem d_TrustDeskModel_trustee_1 : decode kY_TrustDeskModel_trustee.2.1 1 = .ok (.iconst 0, 1) := by decide +kernel
theorem d_TrustDeskModel_trustee_2 : decode kY_TrustDeskModel_trustee.2.1 2 = .ok (.putfield 1, 3) := by decide +kernel
theorem d_TrustDeskModel_trustee_5 : decode kY_TrustDeskModel_trustee.2.1 5 = .ok (.aload_n 0, 1) := by decide +kernel
theorem d_TrustDeskModel_trustee_6 : decode kY_TrustDeskModel_trustee.2.1 6 = .ok (.iload_n 1, 1) := by decide +kernel
theorem d_TrustDeskModel_trustee_7 : decode kY_TrustDeskModel_trustee.2.1 7 = .ok (.invokevirtual 492, 3) := by decide +kernel
abbrev kY_TrustDeskModel_isFree : mj_Y := (⟨"TrustDeskModel", "isFree", "(I)Z"⟩, prog_14_method_52_code, 2, (Option.some Jvm.ClassFile.FieldType.boolean))
theorem lV_TrustDeskModel_492 : mj_lV "TrustDeskModel" 492 kY_TrustDeskModel_isFree 1 := ⟨⟨(mj_in1 (List.mem_of_getElem? (i := 1909) (by decide +kernel)) rfl), (mj_in1 (List.mem_of_getElem? (i := 10) (by decide +kernel)) rfl), (mj_in1 (List.mem_of_getElem? (i := 1912) (by decide +kernel)) rfl), by decide, rfl, by decide⟩, (mj_in1 (List.mem_of_getElem? (i := 1911) (by decide +kernel)) rfl), (mj_in (List.mem_append_left _ (List.mem_of_getElem? (i := 122) (by decide +kernel))) rfl)⟩
theorem d_TrustDeskModel_isFree_0 : decode kY_TrustDeskModel_isFree.2.1 0 = .ok (.aload_n 0, 1) := by decide +kernel
theorem d_TrustDeskModel_isFree_1 : decode kY_TrustDeskModel_isFree.2.1 1 = .ok (.iload_n 1, 1) := by decide +kernel
theorem d_TrustDeskModel_isFree_2 : decode kY_TrustDeskModel_isFree.2.1 2 = .ok (.invokevirtual 418, 3) := by decide +kernel
abbrev kY_TrustDeskModel_isFund : mj_Y := (⟨"TrustDeskModel", "isFund", "(I)Z"⟩, prog_14_method_51_code, 2, (Option.some Jvm.ClassFile.FieldType.boolean))
theorem lV_TrustDeskModel_418 : mj_lV "TrustDeskModel" 418 kY_TrustDeskModel_isFund 1 := ⟨⟨(mj_in1 (List.mem_of_getElem? (i := 1838) (by decide +kernel)) rfl), (mj_in1 (List.mem_of_getElem? (i := 10) (by decide +kernel)) rfl), (mj_in1 (List.mem_of_getElem? (i := 1841) (by decide +kernel)) rfl), by decide, rfl, by decide⟩, (mj_in1 (List.mem_of_getElem? (i := 1840) (by decide +kernel)) rfl), (mj_in (List.mem_append_left _ (List.mem_of_getElem? (i := 112) (by decide +kernel))) rfl)⟩
theorem d_TrustDeskModel_isFund_0 : decode kY_TrustDeskModel_isFund.2.1 0 = .ok (.iload_n 1, 1) := by decide +kernel
theorem d_TrustDeskModel_isFund_1 : decode kY_TrustDeskModel_isFund.2.1 1 = .ok (.ifCond .lt 15, 3) := by decide +kernel
theorem d_TrustDeskModel_isFund_16 : decode kY_TrustDeskModel_isFund.2.1 16 = .ok (.iconst 0, 1) := by decide +kernel
theorem d_TrustDeskModel_isFund_17 : decode kY_TrustDeskModel_isFund.2.1 17 = .ok (.ireturn, 1) := by decide +kernel
theorem d_TrustDeskModel_isFund_4 : decode kY_TrustDeskModel_isFund.2.1 4 = .ok (.iload_n 1, 1) := by decide +kernel
theorem d_TrustDeskModel_isFund_5 : decode kY_TrustDeskModel_isFund.2.1 5 = .ok (.aload_n 0, 1) := by decide +kernel
theorem d_TrustDeskModel_isFund_6 : decode kY_TrustDeskModel_isFund.2.1 6 = .ok (.getfield 415, 3) := by decide +kernel
theorem d_TrustDeskModel_isFund_9 : decode kY_TrustDeskModel_isFund.2.1 9 = .ok (.if_icmp .ge 7, 3) := by decide +kernel
theorem c_TrustDeskModel_isFund_0 {g : mj_G} {l : Launch} {d nx : Nat} {M : mj_M} {x1 : Int32} (h_99 : M 99 = some (.inr (13, [.int 0, .int 0, .int 0, .ref 100, .ref 101, .ref 102, .ref 103, .ref 104, .ref 105, .ref 106, .ref 107, .ref 108, .ref 109, .ref 110, .int 0, .int 0, .int 0, .int 0, .int 0, .int 0, .int 0, .int (-1), .int 0, .int 0, .int 0, .ref 111, .ref 112, .int 0, .ref 113, .ref 114, .ref 115, .int 0, .int 0, .ref 116, .ref 117, .ref 118, .ref 119, .ref 120, .ref 121, .ref 122, .ref 123, .ref 124, .ref 125, .ref 126, .ref 127, .ref 128, .ref 129, .ref 130, .ref 131, .int 0, .ref 132, .int 0, .ref 133, .int 0, .ref 134, .ref 135, .ref 136, .ref 137, .ref 138, .ref 139, .ref 140, .ref 141, .ref 142, .ref 143, .ref 144, .ref 145, .ref 146, .int 0, .long 0, .int 0, .int 0, .ref 147]))) : mj_Met g l kY_TrustDeskModel_isFund d [.ref 99, .int x1] M nx 0 0 (mj_E1 (some (.int 0)) M nx) := by
  refine mj_enter (by decide) (Nat.le_of_ble_eq_true rfl) ?_
  refine mv_iload_n d_TrustDeskModel_isFund_0 rfl rfl ?_
  refine mv_if_ltZ (tgt := 16) (a := x1.toInt) d_TrustDeskModel_isFund_1 (by decide) rfl (fun b1 => ?_) (fun b1 => ?_)
  · refine mv_iconst (v := 0) d_TrustDeskModel_isFund_16 (by decide) ?_
    exact mv_iret d_TrustDeskModel_isFund_17 rfl (by first | rfl | decide) ⟨rfl, rfl, rfl⟩
  · refine mv_iload_n d_TrustDeskModel_isFund_4 rfl rfl ?_
    refine mv_aload_n d_TrustDeskModel_isFund_5 rfl rfl ?_
    refine mv_get d_TrustDeskModel_isFund_6 f_TrustDeskModel_415_13 h_99 rfl ?_
    refine mv_icmp_geZ (tgt := 16) (a := x1.toInt) (b := 0) d_TrustDeskModel_isFund_9 (by decide) rfl (by decide) (fun b2 => ?_) (fun b2 => absurd b2 (by omega))
    refine mv_iconst (v := 0) d_TrustDeskModel_isFund_16 (by decide) ?_
    exact mv_iret d_TrustDeskModel_isFund_17 rfl (by first | rfl | decide) ⟨rfl, rfl, rfl⟩
theorem d_TrustDeskModel_isFree_5 : decode kY_TrustDeskModel_isFree.2.1 5 = .ok (.ifCond .eq 17, 3) := by decide +kernel
theorem d_TrustDeskModel_isFree_22 : decode kY_TrustDeskModel_isFree.2.1 22 = .ok (.iconst 0, 1) := by decide +kernel
theorem d_TrustDeskModel_isFree_23 : decode kY_TrustDeskModel_isFree.2.1 23 = .ok (.ireturn, 1) := by decide +kernel
theorem c_TrustDeskModel_isFree_0 {g : mj_G} {l : Launch} {d nx : Nat} {M : mj_M} {x1 : Int32} (h_99 : M 99 = some (.inr (13, [.int 0, .int 0, .int 0, .ref 100, .ref 101, .ref 102, .ref 103, .ref 104, .ref 105, .ref 106, .ref 107, .ref 108, .ref 109, .ref 110, .int 0, .int 0, .int 0, .int 0, .int 0, .int 0, .int 0, .int (-1), .int 0, .int 0, .int 0, .ref 111, .ref 112, .int 0, .ref 113, .ref 114, .ref 115, .int 0, .int 0, .ref 116, .ref 117, .ref 118, .ref 119, .ref 120, .ref 121, .ref 122, .ref 123, .ref 124, .ref 125, .ref 126, .ref 127, .ref 128, .ref 129, .ref 130, .ref 131, .int 0, .ref 132, .int 0, .ref 133, .int 0, .ref 134, .ref 135, .ref 136, .ref 137, .ref 138, .ref 139, .ref 140, .ref 141, .ref 142, .ref 143, .ref 144, .ref 145, .ref 146, .int 0, .long 0, .int 0, .int 0, .ref 147]))) : mj_Met g l kY_TrustDeskModel_isFree (d + 1) [.ref 99, .int x1] M nx 0 0 (mj_E1 (some (.int 0)) M nx) := by
  refine mj_enter (by decide) (Nat.le_of_ble_eq_true rfl) ?_
  refine mv_aload_n d_TrustDeskModel_isFree_0 rfl rfl ?_
  refine mv_iload_n d_TrustDeskModel_isFree_1 rfl rfl ?_
  refine mv_callV_s (kc' := 0) (ks' := 0) [.int x1] [.int x1, .ref 99] d_TrustDeskModel_isFree_2 lV_TrustDeskModel_418 h_99 rfl (c_TrustDeskModel_isFund_0 (d := d) (x1 := x1) (h_99 := h_99)) rfl (Nat.le_of_ble_eq_true rfl) (Nat.le_of_ble_eq_true rfl) (Nat.le_of_ble_eq_true rfl) rfl ?_
  refine mv_if_eq_t (tgt := 22) d_TrustDeskModel_isFree_5 (by decide) (by decide) ?_
  refine mv_iconst (v := 0) d_TrustDeskModel_isFree_22 (by decide) ?_
  exact mv_iret d_TrustDeskModel_isFree_23 rfl (by first | rfl | decide) ⟨rfl, rfl, rfl⟩
theorem d_TrustDeskModel_trustee_10 : decode kY_TrustDeskModel_trustee.2.1 10 = .ok (.ifCond .eq 38, 3) := by decide +kernel
theorem d_TrustDeskModel_trustee_48 : decode kY_TrustDeskModel_trustee.2.1 48 = .ok (.iconst 0, 1) := by decide +kernel
theorem d_TrustDeskModel_trustee_49 : decode kY_TrustDeskModel_trustee.2.1 49 = .ok (.ireturn, 1) := by decide +kernel
theorem c_TrustDeskModel_trustee_0 {g : mj_G} {l : Launch} {d nx : Nat} {M : mj_M} {x1 : Int32} {x2 : Int32} (h_99 : M 99 = some (.inr (13, [.int 0, .int 0, .int 0, .ref 100, .ref 101, .ref 102, .ref 103, .ref 104, .ref 105, .ref 106, .ref 107, .ref 108, .ref 109, .ref 110, .int 0, .int 0, .int 0, .int 0, .int 0, .int 0, .int 0, .int (-1), .int 0, .int 0, .int 0, .ref 111, .ref 112, .int 0, .ref 113, .ref 114, .ref 115, .int 0, .int 0, .ref 116, .ref 117, .ref 118, .ref 119, .ref 120, .ref 121, .ref 122, .ref 123, .ref 124, .ref 125, .ref 126, .ref 127, .ref 128, .ref 129, .ref 130, .ref 131, .int 0, .ref 132, .int 0, .ref 133, .int 0, .ref 134, .ref 135, .ref 136, .ref 137, .ref 138, .ref 139, .ref 140, .ref 141, .ref 142, .ref 143, .ref 144, .ref 145, .ref 146, .int 0, .long 0, .int 0, .int 0, .ref 147]))) : mj_Met g l kY_TrustDeskModel_trustee (d + 2) [.ref 99, .int x1, .int x2] M nx 0 0 (mj_E1 (some (.int 0)) (mj_up M 99 (.inr (13, [.int 0, .int 0, .int 0, .ref 100, .ref 101, .ref 102, .ref 103, .ref 104, .ref 105, .ref 106, .ref 107, .ref 108, .ref 109, .ref 110, .int 0, .int 0, .int 0, .int 0, .int 0, .int 0, .int 0, .int (-1), .int 0, .int 0, .int 0, .ref 111, .ref 112, .int 0, .ref 113, .ref 114, .ref 115, .int 0, .int 0, .ref 116, .ref 117, .ref 118, .ref 119, .ref 120, .ref 121, .ref 122, .ref 123, .ref 124, .ref 125, .ref 126, .ref 127, .ref 128, .ref 129, .ref 130, .ref 131, .int 0, .ref 132, .int 0, .ref 133, .int 0, .ref 134, .ref 135, .ref 136, .ref 137, .ref 138, .ref 139, .ref 140, .ref 141, .ref 142, .ref 143, .ref 144, .ref 145, .ref 146, .int 0, .long 0, .int 0, .int 0, .ref 147]))) nx) := by
  refine mj_enter (by decide) (Nat.le_of_ble_eq_true rfl) ?_
  refine mv_aload_n d_TrustDeskModel_trustee_0 rfl rfl ?_
  refine mv_iconst (v := 0) d_TrustDeskModel_trustee_1 (by decide) ?_
  refine mv_put (fs' := [.int 0, .int 0, .int 0, .ref 100, .ref 101, .ref 102, .ref 103, .ref 104, .ref 105, .ref 106, .ref 107, .ref 108, .ref 109, .ref 110, .int 0, .int 0, .int 0, .int 0, .int 0, .int 0, .int 0, .int (-1), .int 0, .int 0, .int 0, .ref 111, .ref 112, .int 0, .ref 113, .ref 114, .ref 115, .int 0, .int 0, .ref 116, .ref 117, .ref 118, .ref 119, .ref 120, .ref 121, .ref 122, .ref 123, .ref 124, .ref 125, .ref 126, .ref 127, .ref 128, .ref 129, .ref 130, .ref 131, .int 0, .ref 132, .int 0, .ref 133, .int 0, .ref 134, .ref 135, .ref 136, .ref 137, .ref 138, .ref 139, .ref 140, .ref 141, .ref 142, .ref 143, .ref 144, .ref 145, .ref 146, .int 0, .long 0, .int 0, .int 0, .ref 147]) d_TrustDeskModel_trustee_2 p_TrustDeskModel_1_13 h_99 (Nat.le_of_ble_eq_true rfl) rfl rfl rfl ?_
  refine mv_aload_n d_TrustDeskModel_trustee_5 rfl rfl ?_
  refine mv_iload_n d_TrustDeskModel_trustee_6 rfl rfl ?_
  refine mv_callV_s (kc' := 0) (ks' := 0) [.int x1] [.int x1, .ref 99] d_TrustDeskModel_trustee_7 lV_TrustDeskModel_492 (mj_up_self _ _ _) rfl (c_TrustDeskModel_isFree_0 (d := d) (x1 := x1) (h_99 := (mj_up_self _ _ _))) rfl (Nat.le_of_ble_eq_true rfl) (Nat.le_of_ble_eq_true rfl) (Nat.le_of_ble_eq_true rfl) rfl ?_
  refine mv_if_eq_t (tgt := 48) d_TrustDeskModel_trustee_10 (by decide) (by decide) ?_
  refine mv_iconst (v := 0) d_TrustDeskModel_trustee_48 (by decide) ?_
  exact mv_iret d_TrustDeskModel_trustee_49 rfl (by first | rfl | decide) ⟨rfl, rfl, rfl⟩
abbrev kY_TrustDeskModel_propose : mj_Y := (⟨"TrustDeskModel", "propose", "(III)I"⟩, prog_14_method_72_code, 5, (Option.some Jvm.ClassFile.FieldType.int))
theorem d_TrustDeskModel_propose_0 : decode kY_TrustDeskModel_propose.2.1 0 = .ok (.aload_n 0, 1) := by decide +kernel
theorem d_TrustDeskModel_propose_1 : decode kY_TrustDeskModel_propose.2.1 1 = .ok (.iconst 0, 1) := by decide +kernel
theorem d_TrustDeskModel_propose_2 : decode kY_TrustDeskModel_propose.2.1 2 = .ok (.putfield 1, 3) := by decide +kernel
theorem d_TrustDeskModel_propose_5 : decode kY_TrustDeskModel_propose.2.1 5 = .ok (.aload_n 0, 1) := by decide +kernel
theorem d_TrustDeskModel_propose_6 : decode kY_TrustDeskModel_propose.2.1 6 = .ok (.iload_n 2, 1) := by decide +kernel
theorem d_TrustDeskModel_propose_7 : decode kY_TrustDeskModel_propose.2.1 7 = .ok (.invokevirtual 418, 3) := by decide +kernel
theorem d_TrustDeskModel_propose_10 : decode kY_TrustDeskModel_propose.2.1 10 = .ok (.ifCond .eq 24, 3) := by decide +kernel
theorem d_TrustDeskModel_propose_34 : decode kY_TrustDeskModel_propose.2.1 34 = .ok (.iconst (-1), 1) := by decide +kernel
theorem d_TrustDeskModel_propose_35 : decode kY_TrustDeskModel_propose.2.1 35 = .ok (.ireturn, 1) := by decide +kernel
theorem c_TrustDeskModel_propose_0 {g : mj_G} {l : Launch} {d nx : Nat} {M : mj_M} {x1 : Int32} {x2 : Int32} {x3 : Int32} (h_99 : M 99 = some (.inr (13, [.int 0, .int 0, .int 0, .ref 100, .ref 101, .ref 102, .ref 103, .ref 104, .ref 105, .ref 106, .ref 107, .ref 108, .ref 109, .ref 110, .int 0, .int 0, .int 0, .int 0, .int 0, .int 0, .int 0, .int (-1), .int 0, .int 0, .int 0, .ref 111, .ref 112, .int 0, .ref 113, .ref 114, .ref 115, .int 0, .int 0, .ref 116, .ref 117, .ref 118, .ref 119, .ref 120, .ref 121, .ref 122, .ref 123, .ref 124, .ref 125, .ref 126, .ref 127, .ref 128, .ref 129, .ref 130, .ref 131, .int 0, .ref 132, .int 0, .ref 133, .int 0, .ref 134, .ref 135, .ref 136, .ref 137, .ref 138, .ref 139, .ref 140, .ref 141, .ref 142, .ref 143, .ref 144, .ref 145, .ref 146, .int 0, .long 0, .int 0, .int 0, .ref 147]))) : mj_Met g l kY_TrustDeskModel_propose (d + 1) [.ref 99, .int x1, .int x2, .int x3] M nx 0 0 (mj_E1 (some (.int (-1))) (mj_up M 99 (.inr (13, [.int 0, .int 0, .int 0, .ref 100, .ref 101, .ref 102, .ref 103, .ref 104, .ref 105, .ref 106, .ref 107, .ref 108, .ref 109, .ref 110, .int 0, .int 0, .int 0, .int 0, .int 0, .int 0, .int 0, .int (-1), .int 0, .int 0, .int 0, .ref 111, .ref 112, .int 0, .ref 113, .ref 114, .ref 115, .int 0, .int 0, .ref 116, .ref 117, .ref 118, .ref 119, .ref 120, .ref 121, .ref 122, .ref 123, .ref 124, .ref 125, .ref 126, .ref 127, .ref 128, .ref 129, .ref 130, .ref 131, .int 0, .ref 132, .int 0, .ref 133, .int 0, .ref 134, .ref 135, .ref 136, .ref 137, .ref 138, .ref 139, .ref 140, .ref 141, .ref 142, .ref 143, .ref 144, .ref 145, .ref 146, .int 0, .long 0, .int 0, .int 0, .ref 147]))) nx) := by
  refine mj_enter (by decide) (Nat.le_of_ble_eq_true rfl) ?_
  refine mv_aload_n d_TrustDeskModel_propose_0 rfl rfl ?_
  refine mv_iconst (v := 0) d_TrustDeskModel_propose_1 (by decide) ?_
  refine mv_put (fs' := [.int 0, .int 0, .int 0, .ref 100, .ref 101, .ref 102, .ref 103, .ref 104, .ref 105, .ref 106, .ref 107, .ref 108, .ref 109, .ref 110, .int 0, .int 0, .int 0, .int 0, .int 0, .int 0, .int 0, .int (-1), .int 0, .int 0, .int 0, .ref 111, .ref 112, .int 0, .ref 113, .ref 114, .ref 115, .int 0, .int 0, .ref 116, .ref 117, .ref 118, .ref 119, .ref 120, .ref 121, .ref 122, .ref 123, .ref 124, .ref 125, .ref 126, .ref 127, .ref 128, .ref 129, .ref 130, .ref 131, .int 0, .ref 132, .int 0, .ref 133, .int 0, .ref 134, .ref 135, .ref 136, .ref 137, .ref 138, .ref 139, .ref 140, .ref 141, .ref 142, .ref 143, .ref 144, .ref 145, .ref 146, .int 0, .long 0, .int 0, .int 0, .ref 147]) d_TrustDeskModel_propose_2 p_TrustDeskModel_1_13 h_99 (Nat.le_of_ble_eq_true rfl) rfl rfl rfl ?_
  refine mv_aload_n d_TrustDeskModel_propose_5 rfl rfl ?_
  refine mv_iload_n d_TrustDeskModel_propose_6 rfl rfl ?_
  refine mv_callV_s (kc' := 0) (ks' := 0) [.int x2] [.int x2, .ref 99] d_TrustDeskModel_propose_7 lV_TrustDeskModel_418 (mj_up_self _ _ _) rfl (c_TrustDeskModel_isFund_0 (d := d) (x1 := x2) (h_99 := (mj_up_self _ _ _))) rfl (Nat.le_of_ble_eq_true rfl) (Nat.le_of_ble_eq_true rfl) (Nat.le_of_ble_eq_true rfl) rfl ?_
  refine mv_if_eq_t (tgt := 34) d_TrustDeskModel_propose_10 (by decide) (by decide) ?_
  refine mv_iconst (v := (-1)) d_TrustDeskModel_propose_34 (by decide) ?_
  exact mv_iret d_TrustDeskModel_propose_35 rfl (by first | rfl | decide) ⟨rfl, rfl, rfl⟩
abbrev kY_TrustDeskModel_objects : mj_Y := (⟨"TrustDeskModel", "objects", "(II)Z"⟩, prog_14_method_75_code, 3, (Option.some Jvm.ClassFile.FieldType.boolean))
theorem d_TrustDeskModel_objects_0 : decode kY_TrustDeskModel_objects.2.1 0 = .ok (.aload_n 0, 1) := by decide +kernel
theorem d_TrustDeskModel_objects_1 : decode kY_TrustDeskModel_objects.2.1 1 = .ok (.iconst 0, 1) := by decide +kernel
theorem d_TrustDeskModel_objects_2 : decode kY_TrustDeskModel_objects.2.1 2 = .ok (.putfield 1, 3) := by decide +kernel
theorem d_TrustDeskModel_objects_5 : decode kY_TrustDeskModel_objects.2.1 5 = .ok (.aload_n 0, 1) := by decide +kernel
theorem d_TrustDeskModel_objects_6 : decode kY_TrustDeskModel_objects.2.1 6 = .ok (.iload_n 1, 1) := by decide +kernel
theorem d_TrustDeskModel_objects_7 : decode kY_TrustDeskModel_objects.2.1 7 = .ok (.invokevirtual 506, 3) := by decide +kernel
abbrev kY_TrustDeskModel_isScheme : mj_Y := (⟨"TrustDeskModel", "isScheme", "(I)Z"⟩, prog_14_method_71_code, 2, (Option.some Jvm.ClassFile.FieldType.boolean))
theorem lV_TrustDeskModel_506 : mj_lV "TrustDeskModel" 506 kY_TrustDeskModel_isScheme 1 := ⟨⟨(mj_in1 (List.mem_of_getElem? (i := 1929) (by decide +kernel)) rfl), (mj_in1 (List.mem_of_getElem? (i := 10) (by decide +kernel)) rfl), (mj_in1 (List.mem_of_getElem? (i := 1932) (by decide +kernel)) rfl), by decide, rfl, by decide⟩, (mj_in1 (List.mem_of_getElem? (i := 1931) (by decide +kernel)) rfl), (mj_in (List.mem_append_left _ (List.mem_of_getElem? (i := 124) (by decide +kernel))) rfl)⟩
theorem d_TrustDeskModel_isScheme_0 : decode kY_TrustDeskModel_isScheme.2.1 0 = .ok (.iload_n 1, 1) := by decide +kernel
theorem d_TrustDeskModel_isScheme_1 : decode kY_TrustDeskModel_isScheme.2.1 1 = .ok (.ifCond .lt 15, 3) := by decide +kernel
theorem d_TrustDeskModel_isScheme_16 : decode kY_TrustDeskModel_isScheme.2.1 16 = .ok (.iconst 0, 1) := by decide +kernel
theorem d_TrustDeskModel_isScheme_17 : decode kY_TrustDeskModel_isScheme.2.1 17 = .ok (.ireturn, 1) := by decide +kernel
theorem d_TrustDeskModel_isScheme_4 : decode kY_TrustDeskModel_isScheme.2.1 4 = .ok (.iload_n 1, 1) := by decide +kernel
theorem d_TrustDeskModel_isScheme_5 : decode kY_TrustDeskModel_isScheme.2.1 5 = .ok (.aload_n 0, 1) := by decide +kernel
theorem d_TrustDeskModel_isScheme_6 : decode kY_TrustDeskModel_isScheme.2.1 6 = .ok (.getfield 501, 3) := by decide +kernel
theorem f_TrustDeskModel_501_13 : mj_fl "TrustDeskModel" 501 13 53 := ⟨kR_TrustDeskModel, kF_TrustDeskModel, 72, "TrustDeskModel", rfl, kg_13, by decide, (mj_in1 (List.mem_of_getElem? (i := 1443) (by decide +kernel)) rfl), Or.inl rfl⟩
theorem d_TrustDeskModel_isScheme_9 : decode kY_TrustDeskModel_isScheme.2.1 9 = .ok (.if_icmp .ge 7, 3) := by decide +kernel
theorem c_TrustDeskModel_isScheme_0 {g : mj_G} {l : Launch} {d nx : Nat} {M : mj_M} {x1 : Int32} (h_99 : M 99 = some (.inr (13, [.int 0, .int 0, .int 0, .ref 100, .ref 101, .ref 102, .ref 103, .ref 104, .ref 105, .ref 106, .ref 107, .ref 108, .ref 109, .ref 110, .int 0, .int 0, .int 0, .int 0, .int 0, .int 0, .int 0, .int (-1), .int 0, .int 0, .int 0, .ref 111, .ref 112, .int 0, .ref 113, .ref 114, .ref 115, .int 0, .int 0, .ref 116, .ref 117, .ref 118, .ref 119, .ref 120, .ref 121, .ref 122, .ref 123, .ref 124, .ref 125, .ref 126, .ref 127, .ref 128, .ref 129, .ref 130, .ref 131, .int 0, .ref 132, .int 0, .ref 133, .int 0, .ref 134, .ref 135, .ref 136, .ref 137, .ref 138, .ref 139, .ref 140, .ref 141, .ref 142, .ref 143, .ref 144, .ref 145, .ref 146, .int 0, .long 0, .int 0, .int 0, .ref 147]))) : mj_Met g l kY_TrustDeskModel_isScheme d [.ref 99, .int x1] M nx 0 0 (mj_E1 (some (.int 0)) M nx) := by
  refine mj_enter (by decide) (Nat.le_of_ble_eq_true rfl) ?_
  refine mv_iload_n d_TrustDeskModel_isScheme_0 rfl rfl ?_
  refine mv_if_ltZ (tgt := 16) (a := x1.toInt) d_TrustDeskModel_isScheme_1 (by decide) rfl (fun b1 => ?_) (fun b1 => ?_)
  · refine mv_iconst (v := 0) d_TrustDeskModel_isScheme_16 (by decide) ?_
    exact mv_iret d_TrustDeskModel_isScheme_17 rfl (by first | rfl | decide) ⟨rfl, rfl, rfl⟩
  · refine mv_iload_n d_TrustDeskModel_isScheme_4 rfl rfl ?_
    refine mv_aload_n d_TrustDeskModel_isScheme_5 rfl rfl ?_
    refine mv_get d_TrustDeskModel_isScheme_6 f_TrustDeskModel_501_13 h_99 rfl ?_
    refine mv_icmp_geZ (tgt := 16) (a := x1.toInt) (b := 0) d_TrustDeskModel_isScheme_9 (by decide) rfl (by decide) (fun b2 => ?_) (fun b2 => absurd b2 (by omega))
    refine mv_iconst (v := 0) d_TrustDeskModel_isScheme_16 (by decide) ?_
    exact mv_iret d_TrustDeskModel_isScheme_17 rfl (by first | rfl | decide) ⟨rfl, rfl, rfl⟩
theorem d_TrustDeskModel_objects_10 : decode kY_TrustDeskModel_objects.2.1 10 = .ok (.ifCond .eq 31, 3) := by decide +kernel
theorem d_TrustDeskModel_objects_41 : decode kY_TrustDeskModel_objects.2.1 41 = .ok (.iconst 0, 1) := by decide +kernel
theorem d_TrustDeskModel_objects_42 : decode kY_TrustDeskModel_objects.2.1 42 = .ok (.ireturn, 1) := by decide +kernel
theorem c_TrustDeskModel_objects_0 {g : mj_G} {l : Launch} {d nx : Nat} {M : mj_M} {x1 : Int32} {x2 : Int32} (h_99 : M 99 = some (.inr (13, [.int 0, .int 0, .int 0, .ref 100, .ref 101, .ref 102, .ref 103, .ref 104, .ref 105, .ref 106, .ref 107, .ref 108, .ref 109, .ref 110, .int 0, .int 0, .int 0, .int 0, .int 0, .int 0, .int 0, .int (-1), .int 0, .int 0, .int 0, .ref 111, .ref 112, .int 0, .ref 113, .ref 114, .ref 115, .int 0, .int 0, .ref 116, .ref 117, .ref 118, .ref 119, .ref 120, .ref 121, .ref 122, .ref 123, .ref 124, .ref 125, .ref 126, .ref 127, .ref 128, .ref 129, .ref 130, .ref 131, .int 0, .ref 132, .int 0, .ref 133, .int 0, .ref 134, .ref 135, .ref 136, .ref 137, .ref 138, .ref 139, .ref 140, .ref 141, .ref 142, .ref 143, .ref 144, .ref 145, .ref 146, .int 0, .long 0, .int 0, .int 0, .ref 147]))) : mj_Met g l kY_TrustDeskModel_objects (d + 1) [.ref 99, .int x1, .int x2] M nx 0 0 (mj_E1 (some (.int 0)) (mj_up M 99 (.inr (13, [.int 0, .int 0, .int 0, .ref 100, .ref 101, .ref 102, .ref 103, .ref 104, .ref 105, .ref 106, .ref 107, .ref 108, .ref 109, .ref 110, .int 0, .int 0, .int 0, .int 0, .int 0, .int 0, .int 0, .int (-1), .int 0, .int 0, .int 0, .ref 111, .ref 112, .int 0, .ref 113, .ref 114, .ref 115, .int 0, .int 0, .ref 116, .ref 117, .ref 118, .ref 119, .ref 120, .ref 121, .ref 122, .ref 123, .ref 124, .ref 125, .ref 126, .ref 127, .ref 128, .ref 129, .ref 130, .ref 131, .int 0, .ref 132, .int 0, .ref 133, .int 0, .ref 134, .ref 135, .ref 136, .ref 137, .ref 138, .ref 139, .ref 140, .ref 141, .ref 142, .ref 143, .ref 144, .ref 145, .ref 146, .int 0, .long 0, .int 0, .int 0, .ref 147]))) nx) := by
  refine mj_enter (by decide) (Nat.le_of_ble_eq_true rfl) ?_
  refine mv_aload_n d_TrustDeskModel_objects_0 rfl rfl ?_
  refine mv_iconst (v := 0) d_TrustDeskModel_objects_1 (by decide) ?_
  refine mv_put (fs' := [.int 0, .int 0, .int 0, .ref 100, .ref 101, .ref 102, .ref 103, .ref 104, .ref 105, .ref 106, .ref 107, .ref 108, .ref 109, .ref 110, .int 0, .int 0, .int 0, .int 0, .int 0, .int 0, .int 0, .int (-1), .int 0, .int 0, .int 0, .ref 111, .ref 112, .int 0, .ref 113, .ref 114, .ref 115, .int 0, .int 0, .ref 116, .ref 117, .ref 118, .ref 119, .ref 120, .ref 121, .ref 122, .ref 123, .ref 124, .ref 125, .ref 126, .ref 127, .ref 128, .ref 129, .ref 130, .ref 131, .int 0, .ref 132, .int 0, .ref 133, .int 0, .ref 134, .ref 135, .ref 136, .ref 137, .ref 138, .ref 139, .ref 140, .ref 141, .ref 142, .ref 143, .ref 144, .ref 145, .ref 146, .int 0, .long 0, .int 0, .int 0, .ref 147]) d_TrustDeskModel_objects_2 p_TrustDeskModel_1_13 h_99 (Nat.le_of_ble_eq_true rfl) rfl rfl rfl ?_
  refine mv_aload_n d_TrustDeskModel_objects_5 rfl rfl ?_
  refine mv_iload_n d_TrustDeskModel_objects_6 rfl rfl ?_
  refine mv_callV_s (kc' := 0) (ks' := 0) [.int x1] [.int x1, .ref 99] d_TrustDeskModel_objects_7 lV_TrustDeskModel_506 (mj_up_self _ _ _) rfl (c_TrustDeskModel_isScheme_0 (d := d) (x1 := x1) (h_99 := (mj_up_self _ _ _))) rfl (Nat.le_of_ble_eq_true rfl) (Nat.le_of_ble_eq_true rfl) (Nat.le_of_ble_eq_true rfl) rfl ?_
  refine mv_if_eq_t (tgt := 41) d_TrustDeskModel_objects_10 (by decide) (by decide) ?_
  refine mv_iconst (v := 0) d_TrustDeskModel_objects_41 (by decide) ?_
  exact mv_iret d_TrustDeskModel_objects_42 rfl (by first | rfl | decide) ⟨rfl, rfl, rfl⟩
abbrev kY_TrustDeskModel_withdraws : mj_Y := (⟨"TrustDeskModel", "withdraws", "(II)Z"⟩, prog_14_method_76_code, 3, (Option.some Jvm.ClassFile.FieldType.boolean))
theorem d_TrustDeskModel_withdraws_0 : decode kY_TrustDeskModel_withdraws.2.1 0 = .ok (.aload_n 0, 1) := by decide +kernel
theorem d_TrustDeskModel_withdraws_1 : decode kY_TrustDeskModel_withdraws.2.1 1 = .ok (.iconst 0, 1) := by decide +kernel
theorem d_TrustDeskModel_withdraws_2 : decode kY_TrustDeskModel_withdraws.2.1 2 = .ok (.putfield 1, 3) := by decide +kernel
theorem d_TrustDeskModel_withdraws_5 : decode kY_TrustDeskModel_withdraws.2.1 5 = .ok (.aload_n 0, 1) := by decide +kernel
theorem d_TrustDeskModel_withdraws_6 : decode kY_TrustDeskModel_withdraws.2.1 6 = .ok (.iload_n 1, 1) := by decide +kernel
theorem d_TrustDeskModel_withdraws_7 : decode kY_TrustDeskModel_withdraws.2.1 7 = .ok (.invokevirtual 506, 3) := by decide +kernel
theorem d_TrustDeskModel_withdraws_10 : decode kY_TrustDeskModel_withdraws.2.1 10 = .ok (.ifCond .eq 33, 3) := by decide +kernel
theorem d_TrustDeskModel_withdraws_43 : decode kY_TrustDeskModel_withdraws.2.1 43 = .ok (.iconst 0, 1) := by decide +kernel
theorem d_TrustDeskModel_withdraws_44 : decode kY_TrustDeskModel_withdraws.2.1 44 = .ok (.ireturn, 1) := by decide +kernel
theorem c_TrustDeskModel_withdraws_0 {g : mj_G} {l : Launch} {d nx : Nat} {M : mj_M} {x1 : Int32} {x2 : Int32} (h_99 : M 99 = some (.inr (13, [.int 0, .int 0, .int 0, .ref 100, .ref 101, .ref 102, .ref 103, .ref 104, .ref 105, .ref 106, .ref 107, .ref 108, .ref 109, .ref 110, .int 0, .int 0, .int 0, .int 0, .int 0, .int 0, .int 0, .int (-1), .int 0, .int 0, .int 0, .ref 111, .ref 112, .int 0, .ref 113, .ref 114, .ref 115, .int 0, .int 0, .ref 116, .ref 117, .ref 118, .ref 119, .ref 120, .ref 121, .ref 122, .ref 123, .ref 124, .ref 125, .ref 126, .ref 127, .ref 128, .ref 129, .ref 130, .ref 131, .int 0, .ref 132, .int 0, .ref 133, .int 0, .ref 134, .ref 135, .ref 136, .ref 137, .ref 138, .ref 139, .ref 140, .ref 141, .ref 142, .ref 143, .ref 144, .ref 145, .ref 146, .int 0, .long 0, .int 0, .int 0, .ref 147]))) : mj_Met g l kY_TrustDeskModel_withdraws (d + 1) [.ref 99, .int x1, .int x2] M nx 0 0 (mj_E1 (some (.int 0)) (mj_up M 99 (.inr (13, [.int 0, .int 0, .int 0, .ref 100, .ref 101, .ref 102, .ref 103, .ref 104, .ref 105, .ref 106, .ref 107, .ref 108, .ref 109, .ref 110, .int 0, .int 0, .int 0, .int 0, .int 0, .int 0, .int 0, .int (-1), .int 0, .int 0, .int 0, .ref 111, .ref 112, .int 0, .ref 113, .ref 114, .ref 115, .int 0, .int 0, .ref 116, .ref 117, .ref 118, .ref 119, .ref 120, .ref 121, .ref 122, .ref 123, .ref 124, .ref 125, .ref 126, .ref 127, .ref 128, .ref 129, .ref 130, .ref 131, .int 0, .ref 132, .int 0, .ref 133, .int 0, .ref 134, .ref 135, .ref 136, .ref 137, .ref 138, .ref 139, .ref 140, .ref 141, .ref 142, .ref 143, .ref 144, .ref 145, .ref 146, .int 0, .long 0, .int 0, .int 0, .ref 147]))) nx) := by
  refine mj_enter (by decide) (Nat.le_of_ble_eq_true rfl) ?_
  refine mv_aload_n d_TrustDeskModel_withdraws_0 rfl rfl ?_
  refine mv_iconst (v := 0) d_TrustDeskModel_withdraws_1 (by decide) ?_
  refine mv_put (fs' := [.int 0, .int 0, .int 0, .ref 100, .ref 101, .ref 102, .ref 103, .ref 104, .ref 105, .ref 106, .ref 107, .ref 108, .ref 109, .ref 110, .int 0, .int 0, .int 0, .int 0, .int 0, .int 0, .int 0, .int (-1), .int 0, .int 0, .int 0, .ref 111, .ref 112, .int 0, .ref 113, .ref 114, .ref 115, .int 0, .int 0, .ref 116, .ref 117, .ref 118, .ref 119, .ref 120, .ref 121, .ref 122, .ref 123, .ref 124, .ref 125, .ref 126, .ref 127, .ref 128, .ref 129, .ref 130, .ref 131, .int 0, .ref 132, .int 0, .ref 133, .int 0, .ref 134, .ref 135, .ref 136, .ref 137, .ref 138, .ref 139, .ref 140, .ref 141, .ref 142, .ref 143, .ref 144, .ref 145, .ref 146, .int 0, .long 0, .int 0, .int 0, .ref 147]) d_TrustDeskModel_withdraws_2 p_TrustDeskModel_1_13 h_99 (Nat.le_of_ble_eq_true rfl) rfl rfl rfl ?_
  refine mv_aload_n d_TrustDeskModel_withdraws_5 rfl rfl ?_
  refine mv_iload_n d_TrustDeskModel_withdraws_6 rfl rfl ?_
  refine mv_callV_s (kc' := 0) (ks' := 0) [.int x1] [.int x1, .ref 99] d_TrustDeskModel_withdraws_7 lV_TrustDeskModel_506 (mj_up_self _ _ _) rfl (c_TrustDeskModel_isScheme_0 (d := d) (x1 := x1) (h_99 := (mj_up_self _ _ _))) rfl (Nat.le_of_ble_eq_true rfl) (Nat.le_of_ble_eq_true rfl) (Nat.le_of_ble_eq_true rfl) rfl ?_
  refine mv_if_eq_t (tgt := 43) d_TrustDeskModel_withdraws_10 (by decide) (by decide) ?_
  refine mv_iconst (v := 0) d_TrustDeskModel_withdraws_43 (by decide) ?_
  exact mv_iret d_TrustDeskModel_withdraws_44 rfl (by first | rfl | decide) ⟨rfl, rfl, rfl⟩
abbrev kY_TrustDeskModel_vote : mj_Y := (⟨"TrustDeskModel", "vote", "(IIZ)Z"⟩, prog_14_method_77_code, 5, (Option.some Jvm.ClassFile.FieldType.boolean))
theorem d_TrustDeskModel_vote_0 : decode kY_TrustDeskModel_vote.2.1 0 = .ok (.aload_n 0, 1) := by decide +kernel
theorem d_TrustDeskModel_vote_1 : decode kY_TrustDeskModel_vote.2.1 1 = .ok (.iconst 0, 1) := by decide +kernel
theorem d_TrustDeskModel_vote_2 : decode kY_TrustDeskModel_vote.2.1 2 = .ok (.putfield 1, 3) := by decide +kernel
theorem d_TrustDeskModel_vote_5 : decode kY_TrustDeskModel_vote.2.1 5 = .ok (.aload_n 0, 1) := by decide +kernel
theorem d_TrustDeskModel_vote_6 : decode kY_TrustDeskModel_vote.2.1 6 = .ok (.iload_n 1, 1) := by decide +kernel
theorem d_TrustDeskModel_vote_7 : decode kY_TrustDeskModel_vote.2.1 7 = .ok (.invokevirtual 506, 3) := by decide +kernel
theorem d_TrustDeskModel_vote_10 : decode kY_TrustDeskModel_vote.2.1 10 = .ok (.ifCond .eq 19, 3) := by decide +kernel
theorem d_TrustDeskModel_vote_29 : decode kY_TrustDeskModel_vote.2.1 29 = .ok (.iconst 0, 1) := by decide +kernel
theorem d_TrustDeskModel_vote_30 : decode kY_TrustDeskModel_vote.2.1 30 = .ok (.ireturn, 1) := by decide +kernel
theorem c_TrustDeskModel_vote_0 {g : mj_G} {l : Launch} {d nx : Nat} {M : mj_M} {x1 : Int32} {x2 : Int32} {x3 : Int32} (h_99 : M 99 = some (.inr (13, [.int 0, .int 0, .int 0, .ref 100, .ref 101, .ref 102, .ref 103, .ref 104, .ref 105, .ref 106, .ref 107, .ref 108, .ref 109, .ref 110, .int 0, .int 0, .int 0, .int 0, .int 0, .int 0, .int 0, .int (-1), .int 0, .int 0, .int 0, .ref 111, .ref 112, .int 0, .ref 113, .ref 114, .ref 115, .int 0, .int 0, .ref 116, .ref 117, .ref 118, .ref 119, .ref 120, .ref 121, .ref 122, .ref 123, .ref 124, .ref 125, .ref 126, .ref 127, .ref 128, .ref 129, .ref 130, .ref 131, .int 0, .ref 132, .int 0, .ref 133, .int 0, .ref 134, .ref 135, .ref 136, .ref 137, .ref 138, .ref 139, .ref 140, .ref 141, .ref 142, .ref 143, .ref 144, .ref 145, .ref 146, .int 0, .long 0, .int 0, .int 0, .ref 147]))) : mj_Met g l kY_TrustDeskModel_vote (d + 1) [.ref 99, .int x1, .int x2, .int x3] M nx 0 0 (mj_E1 (some (.int 0)) (mj_up M 99 (.inr (13, [.int 0, .int 0, .int 0, .ref 100, .ref 101, .ref 102, .ref 103, .ref 104, .ref 105, .ref 106, .ref 107, .ref 108, .ref 109, .ref 110, .int 0, .int 0, .int 0, .int 0, .int 0, .int 0, .int 0, .int (-1), .int 0, .int 0, .int 0, .ref 111, .ref 112, .int 0, .ref 113, .ref 114, .ref 115, .int 0, .int 0, .ref 116, .ref 117, .ref 118, .ref 119, .ref 120, .ref 121, .ref 122, .ref 123, .ref 124, .ref 125, .ref 126, .ref 127, .ref 128, .ref 129, .ref 130, .ref 131, .int 0, .ref 132, .int 0, .ref 133, .int 0, .ref 134, .ref 135, .ref 136, .ref 137, .ref 138, .ref 139, .ref 140, .ref 141, .ref 142, .ref 143, .ref 144, .ref 145, .ref 146, .int 0, .long 0, .int 0, .int 0, .ref 147]))) nx) := by
  refine mj_enter (by decide) (Nat.le_of_ble_eq_true rfl) ?_
  refine mv_aload_n d_TrustDeskModel_vote_0 rfl rfl ?_
  refine mv_iconst (v := 0) d_TrustDeskModel_vote_1 (by decide) ?_
  refine mv_put (fs' := [.int 0, .int 0, .int 0, .ref 100, .ref 101, .ref 102, .ref 103, .ref 104, .ref 105, .ref 106, .ref 107, .ref 108, .ref 109, .ref 110, .int 0, .int 0, .int 0, .int 0, .int 0, .int 0, .int 0, .int (-1), .int 0, .int 0, .int 0, .ref 111, .ref 112, .int 0, .ref 113, .ref 114, .ref 115, .int 0, .int 0, .ref 116, .ref 117, .ref 118, .ref 119, .ref 120, .ref 121, .ref 122, .ref 123, .ref 124, .ref 125, .ref 126, .ref 127, .ref 128, .ref 129, .ref 130, .ref 131, .int 0, .ref 132, .int 0, .ref 133, .int 0, .ref 134, .ref 135, .ref 136, .ref 137, .ref 138, .ref 139, .ref 140, .ref 141, .ref 142, .ref 143, .ref 144, .ref 145, .ref 146, .int 0, .long 0, .int 0, .int 0, .ref 147]) d_TrustDeskModel_vote_2 p_TrustDeskModel_1_13 h_99 (Nat.le_of_ble_eq_true rfl) rfl rfl rfl ?_
  refine mv_aload_n d_TrustDeskModel_vote_5 rfl rfl ?_
  refine mv_iload_n d_TrustDeskModel_vote_6 rfl rfl ?_
  refine mv_callV_s (kc' := 0) (ks' := 0) [.int x1] [.int x1, .ref 99] d_TrustDeskModel_vote_7 lV_TrustDeskModel_506 (mj_up_self _ _ _) rfl (c_TrustDeskModel_isScheme_0 (d := d) (x1 := x1) (h_99 := (mj_up_self _ _ _))) rfl (Nat.le_of_ble_eq_true rfl) (Nat.le_of_ble_eq_true rfl) (Nat.le_of_ble_eq_true rfl) rfl ?_
  refine mv_if_eq_t (tgt := 29) d_TrustDeskModel_vote_10 (by decide) (by decide) ?_
  refine mv_iconst (v := 0) d_TrustDeskModel_vote_29 (by decide) ?_
  exact mv_iret d_TrustDeskModel_vote_30 rfl (by first | rfl | decide) ⟨rfl, rfl, rfl⟩
abbrev kY_TrustDeskModel_settle : mj_Y := (⟨"TrustDeskModel", "settle", "(I)I"⟩, prog_14_method_87_code, 3, (Option.some Jvm.ClassFile.FieldType.int))
theorem d_TrustDeskModel_settle_0 : decode kY_TrustDeskModel_settle.2.1 0 = .ok (.aload_n 0, 1) := by decide +kernel
theorem d_TrustDeskModel_settle_1 : decode kY_TrustDeskModel_settle.2.1 1 = .ok (.iconst 0, 1) := by decide +kernel
theorem d_TrustDeskModel_settle_2 : decode kY_TrustDeskModel_settle.2.1 2 = .ok (.putfield 1, 3) := by decide +kernel
theorem d_TrustDeskModel_settle_5 : decode kY_TrustDeskModel_settle.2.1 5 = .ok (.aload_n 0, 1) := by decide +kernel
theorem d_TrustDeskModel_settle_6 : decode kY_TrustDeskModel_settle.2.1 6 = .ok (.iload_n 1, 1) := by decide +kernel
theorem d_TrustDeskModel_settle_7 : decode kY_TrustDeskModel_settle.2.1 7 = .ok (.invokevirtual 506, 3) := by decide +kernel
theorem d_TrustDeskModel_settle_10 : decode kY_TrustDeskModel_settle.2.1 10 = .ok (.ifCond .eq 24, 3) := by decide +kernel
theorem d_TrustDeskModel_settle_34 : decode kY_TrustDeskModel_settle.2.1 34 = .ok (.iconst (-1), 1) := by decide +kernel
theorem d_TrustDeskModel_settle_35 : decode kY_TrustDeskModel_settle.2.1 35 = .ok (.ireturn, 1) := by decide +kernel
theorem c_TrustDeskModel_settle_0 {g : mj_G} {l : Launch} {d nx : Nat} {M : mj_M} {x1 : Int32} (h_99 : M 99 = some (.inr (13, [.int 0, .int 0, .int 0, .ref 100, .ref 101, .ref 102, .ref 103, .ref 104, .ref 105, .ref 106, .ref 107, .ref 108, .ref 109, .ref 110, .int 0, .int 0, .int 0, .int 0, .int 0, .int 0, .int 0, .int (-1), .int 0, .int 0, .int 0, .ref 111, .ref 112, .int 0, .ref 113, .ref 114, .ref 115, .int 0, .int 0, .ref 116, .ref 117, .ref 118, .ref 119, .ref 120, .ref 121, .ref 122, .ref 123, .ref 124, .ref 125, .ref 126, .ref 127, .ref 128, .ref 129, .ref 130, .ref 131, .int 0, .ref 132, .int 0, .ref 133, .int 0, .ref 134, .ref 135, .ref 136, .ref 137, .ref 138, .ref 139, .ref 140, .ref 141, .ref 142, .ref 143, .ref 144, .ref 145, .ref 146, .int 0, .long 0, .int 0, .int 0, .ref 147]))) : mj_Met g l kY_TrustDeskModel_settle (d + 1) [.ref 99, .int x1] M nx 0 0 (mj_E1 (some (.int (-1))) (mj_up M 99 (.inr (13, [.int 0, .int 0, .int 0, .ref 100, .ref 101, .ref 102, .ref 103, .ref 104, .ref 105, .ref 106, .ref 107, .ref 108, .ref 109, .ref 110, .int 0, .int 0, .int 0, .int 0, .int 0, .int 0, .int 0, .int (-1), .int 0, .int 0, .int 0, .ref 111, .ref 112, .int 0, .ref 113, .ref 114, .ref 115, .int 0, .int 0, .ref 116, .ref 117, .ref 118, .ref 119, .ref 120, .ref 121, .ref 122, .ref 123, .ref 124, .ref 125, .ref 126, .ref 127, .ref 128, .ref 129, .ref 130, .ref 131, .int 0, .ref 132, .int 0, .ref 133, .int 0, .ref 134, .ref 135, .ref 136, .ref 137, .ref 138, .ref 139, .ref 140, .ref 141, .ref 142, .ref 143, .ref 144, .ref 145, .ref 146, .int 0, .long 0, .int 0, .int 0, .ref 147]))) nx) := by
  refine mj_enter (by decide) (Nat.le_of_ble_eq_true rfl) ?_
  refine mv_aload_n d_TrustDeskModel_settle_0 rfl rfl ?_
  refine mv_iconst (v := 0) d_TrustDeskModel_settle_1 (by decide) ?_
  refine mv_put (fs' := [.int 0, .int 0, .int 0, .ref 100, .ref 101, .ref 102, .ref 103, .ref 104, .ref 105, .ref 106, .ref 107, .ref 108, .ref 109, .ref 110, .int 0, .int 0, .int 0, .int 0, .int 0, .int 0, .int 0, .int (-1), .int 0, .int 0, .int 0, .ref 111, .ref 112, .int 0, .ref 113, .ref 114, .ref 115, .int 0, .int 0, .ref 116, .ref 117, .ref 118, .ref 119, .ref 120, .ref 121, .ref 122, .ref 123, .ref 124, .ref 125, .ref 126, .ref 127, .ref 128, .ref 129, .ref 130, .ref 131, .int 0, .ref 132, .int 0, .ref 133, .int 0, .ref 134, .ref 135, .ref 136, .ref 137, .ref 138, .ref 139, .ref 140, .ref 141, .ref 142, .ref 143, .ref 144, .ref 145, .ref 146, .int 0, .long 0, .int 0, .int 0, .ref 147]) d_TrustDeskModel_settle_2 p_TrustDeskModel_1_13 h_99 (Nat.le_of_ble_eq_true rfl) rfl rfl rfl ?_
  refine mv_aload_n d_TrustDeskModel_settle_5 rfl rfl ?_
  refine mv_iload_n d_TrustDeskModel_settle_6 rfl rfl ?_
  refine mv_callV_s (kc' := 0) (ks' := 0) [.int x1] [.int x1, .ref 99] d_TrustDeskModel_settle_7 lV_TrustDeskModel_506 (mj_up_self _ _ _) rfl (c_TrustDeskModel_isScheme_0 (d := d) (x1 := x1) (h_99 := (mj_up_self _ _ _))) rfl (Nat.le_of_ble_eq_true rfl) (Nat.le_of_ble_eq_true rfl) (Nat.le_of_ble_eq_true rfl) rfl ?_
  refine mv_if_eq_t (tgt := 34) d_TrustDeskModel_settle_10 (by decide) (by decide) ?_
  refine mv_iconst (v := (-1)) d_TrustDeskModel_settle_34 (by decide) ?_
  exact mv_iret d_TrustDeskModel_settle_35 rfl (by first | rfl | decide) ⟨rfl, rfl, rfl⟩
abbrev kY_TrustDeskModel_scheme : mj_Y := (⟨"TrustDeskModel", "scheme", "(II)I"⟩, prog_14_method_89_code, 3, (Option.some Jvm.ClassFile.FieldType.int))
theorem d_TrustDeskModel_scheme_0 : decode kY_TrustDeskModel_scheme.2.1 0 = .ok (.aload_n 0, 1) := by decide +kernel
theorem d_TrustDeskModel_scheme_1 : decode kY_TrustDeskModel_scheme.2.1 1 = .ok (.iconst 0, 1) := by decide +kernel
theorem d_TrustDeskModel_scheme_2 : decode kY_TrustDeskModel_scheme.2.1 2 = .ok (.putfield 1, 3) := by decide +kernel
theorem d_TrustDeskModel_scheme_5 : decode kY_TrustDeskModel_scheme.2.1 5 = .ok (.aload_n 0, 1) := by decide +kernel
theorem d_TrustDeskModel_scheme_6 : decode kY_TrustDeskModel_scheme.2.1 6 = .ok (.iload_n 1, 1) := by decide +kernel
theorem d_TrustDeskModel_scheme_7 : decode kY_TrustDeskModel_scheme.2.1 7 = .ok (.invokevirtual 506, 3) := by decide +kernel
theorem d_TrustDeskModel_scheme_10 : decode kY_TrustDeskModel_scheme.2.1 10 = .ok (.ifCond .ne 5, 3) := by decide +kernel
theorem d_TrustDeskModel_scheme_13 : decode kY_TrustDeskModel_scheme.2.1 13 = .ok (.iconst (-1), 1) := by decide +kernel
theorem d_TrustDeskModel_scheme_14 : decode kY_TrustDeskModel_scheme.2.1 14 = .ok (.ireturn, 1) := by decide +kernel
theorem c_TrustDeskModel_scheme_0 {g : mj_G} {l : Launch} {d nx : Nat} {M : mj_M} {x1 : Int32} {x2 : Int32} (h_99 : M 99 = some (.inr (13, [.int 0, .int 0, .int 0, .ref 100, .ref 101, .ref 102, .ref 103, .ref 104, .ref 105, .ref 106, .ref 107, .ref 108, .ref 109, .ref 110, .int 0, .int 0, .int 0, .int 0, .int 0, .int 0, .int 0, .int (-1), .int 0, .int 0, .int 0, .ref 111, .ref 112, .int 0, .ref 113, .ref 114, .ref 115, .int 0, .int 0, .ref 116, .ref 117, .ref 118, .ref 119, .ref 120, .ref 121, .ref 122, .ref 123, .ref 124, .ref 125, .ref 126, .ref 127, .ref 128, .ref 129, .ref 130, .ref 131, .int 0, .ref 132, .int 0, .ref 133, .int 0, .ref 134, .ref 135, .ref 136, .ref 137, .ref 138, .ref 139, .ref 140, .ref 141, .ref 142, .ref 143, .ref 144, .ref 145, .ref 146, .int 0, .long 0, .int 0, .int 0, .ref 147]))) : mj_Met g l kY_TrustDeskModel_scheme (d + 1) [.ref 99, .int x1, .int x2] M nx 0 0 (mj_E1 (some (.int (-1))) (mj_up M 99 (.inr (13, [.int 0, .int 0, .int 0, .ref 100, .ref 101, .ref 102, .ref 103, .ref 104, .ref 105, .ref 106, .ref 107, .ref 108, .ref 109, .ref 110, .int 0, .int 0, .int 0, .int 0, .int 0, .int 0, .int 0, .int (-1), .int 0, .int 0, .int 0, .ref 111, .ref 112, .int 0, .ref 113, .ref 114, .ref 115, .int 0, .int 0, .ref 116, .ref 117, .ref 118, .ref 119, .ref 120, .ref 121, .ref 122, .ref 123, .ref 124, .ref 125, .ref 126, .ref 127, .ref 128, .ref 129, .ref 130, .ref 131, .int 0, .ref 132, .int 0, .ref 133, .int 0, .ref 134, .ref 135, .ref 136, .ref 137, .ref 138, .ref 139, .ref 140, .ref 141, .ref 142, .ref 143, .ref 144, .ref 145, .ref 146, .int 0, .long 0, .int 0, .int 0, .ref 147]))) nx) := by
  refine mj_enter (by decide) (Nat.le_of_ble_eq_true rfl) ?_
  refine mv_aload_n d_TrustDeskModel_scheme_0 rfl rfl ?_
  refine mv_iconst (v := 0) d_TrustDeskModel_scheme_1 (by decide) ?_
  refine mv_put (fs' := [.int 0, .int 0, .int 0, .ref 100, .ref 101, .ref 102, .ref 103, .ref 104, .ref 105, .ref 106, .ref 107, .ref 108, .ref 109, .ref 110, .int 0, .int 0, .int 0, .int 0, .int 0, .int 0, .int 0, .int (-1), .int 0, .int 0, .int 0, .ref 111, .ref 112, .int 0, .ref 113, .ref 114, .ref 115, .int 0, .int 0, .ref 116, .ref 117, .ref 118, .ref 119, .ref 120, .ref 121, .ref 122, .ref 123, .ref 124, .ref 125, .ref 126, .ref 127, .ref 128, .ref 129, .ref 130, .ref 131, .int 0, .ref 132, .int 0, .ref 133, .int 0, .ref 134, .ref 135, .ref 136, .ref 137, .ref 138, .ref 139, .ref 140, .ref 141, .ref 142, .ref 143, .ref 144, .ref 145, .ref 146, .int 0, .long 0, .int 0, .int 0, .ref 147]) d_TrustDeskModel_scheme_2 p_TrustDeskModel_1_13 h_99 (Nat.le_of_ble_eq_true rfl) rfl rfl rfl ?_
  refine mv_aload_n d_TrustDeskModel_scheme_5 rfl rfl ?_
  refine mv_iload_n d_TrustDeskModel_scheme_6 rfl rfl ?_
  refine mv_callV_s (kc' := 0) (ks' := 0) [.int x1] [.int x1, .ref 99] d_TrustDeskModel_scheme_7 lV_TrustDeskModel_506 (mj_up_self _ _ _) rfl (c_TrustDeskModel_isScheme_0 (d := d) (x1 := x1) (h_99 := (mj_up_self _ _ _))) rfl (Nat.le_of_ble_eq_true rfl) (Nat.le_of_ble_eq_true rfl) (Nat.le_of_ble_eq_true rfl) rfl ?_
  refine mv_if_ne_f (tgt := 15) d_TrustDeskModel_scheme_10 (by decide) (by decide) ?_
  refine mv_iconst (v := (-1)) d_TrustDeskModel_scheme_13 (by decide) ?_
  exact mv_iret d_TrustDeskModel_scheme_14 rfl (by first | rfl | decide) ⟨rfl, rfl, rfl⟩
abbrev kY_TrustDeskModel_fundOf : mj_Y := (⟨"TrustDeskModel", "fundOf", "(II)I"⟩, prog_14_method_102_code, 3, (Option.some Jvm.ClassFile.FieldType.int))
theorem d_TrustDeskModel_fundOf_0 : decode kY_TrustDeskModel_fundOf.2.1 0 = .ok (.aload_n 0, 1) := by decide +kernel
theorem d_TrustDeskModel_fundOf_1 : decode kY_TrustDeskModel_fundOf.2.1 1 = .ok (.iconst 0, 1) := by decide +kernel
theorem d_TrustDeskModel_fundOf_2 : decode kY_TrustDeskModel_fundOf.2.1 2 = .ok (.putfield 1, 3) := by decide +kernel
theorem d_TrustDeskModel_fundOf_5 : decode kY_TrustDeskModel_fundOf.2.1 5 = .ok (.aload_n 0, 1) := by decide +kernel
theorem d_TrustDeskModel_fundOf_6 : decode kY_TrustDeskModel_fundOf.2.1 6 = .ok (.iload_n 1, 1) := by decide +kernel
theorem d_TrustDeskModel_fundOf_7 : decode kY_TrustDeskModel_fundOf.2.1 7 = .ok (.invokevirtual 418, 3) := by decide +kernel
theorem d_TrustDeskModel_fundOf_10 : decode kY_TrustDeskModel_fundOf.2.1 10 = .ok (.ifCond .eq 15, 3) := by decide +kernel
theorem d_TrustDeskModel_fundOf_25 : decode kY_TrustDeskModel_fundOf.2.1 25 = .ok (.aload_n 0, 1) := by decide +kernel
theorem d_TrustDeskModel_fundOf_26 : decode kY_TrustDeskModel_fundOf.2.1 26 = .ok (.iconst 1, 1) := by decide +kernel
theorem d_TrustDeskModel_fundOf_27 : decode kY_TrustDeskModel_fundOf.2.1 27 = .ok (.putfield 1, 3) := by decide +kernel
theorem d_TrustDeskModel_fundOf_30 : decode kY_TrustDeskModel_fundOf.2.1 30 = .ok (.iconst 0, 1) := by decide +kernel
theorem d_TrustDeskModel_fundOf_31 : decode kY_TrustDeskModel_fundOf.2.1 31 = .ok (.ireturn, 1) := by decide +kernel
theorem c_TrustDeskModel_fundOf_0 {g : mj_G} {l : Launch} {d nx : Nat} {M : mj_M} {x1 : Int32} {x2 : Int32} (h_99 : M 99 = some (.inr (13, [.int 0, .int 0, .int 0, .ref 100, .ref 101, .ref 102, .ref 103, .ref 104, .ref 105, .ref 106, .ref 107, .ref 108, .ref 109, .ref 110, .int 0, .int 0, .int 0, .int 0, .int 0, .int 0, .int 0, .int (-1), .int 0, .int 0, .int 0, .ref 111, .ref 112, .int 0, .ref 113, .ref 114, .ref 115, .int 0, .int 0, .ref 116, .ref 117, .ref 118, .ref 119, .ref 120, .ref 121, .ref 122, .ref 123, .ref 124, .ref 125, .ref 126, .ref 127, .ref 128, .ref 129, .ref 130, .ref 131, .int 0, .ref 132, .int 0, .ref 133, .int 0, .ref 134, .ref 135, .ref 136, .ref 137, .ref 138, .ref 139, .ref 140, .ref 141, .ref 142, .ref 143, .ref 144, .ref 145, .ref 146, .int 0, .long 0, .int 0, .int 0, .ref 147]))) : mj_Met g l kY_TrustDeskModel_fundOf (d + 1) [.ref 99, .int x1, .int x2] M nx 0 0 (mj_E1 (some (.int 0)) (mj_up (mj_up M 99 (.inr (13, [.int 0, .int 0, .int 0, .ref 100, .ref 101, .ref 102, .ref 103, .ref 104, .ref 105, .ref 106, .ref 107, .ref 108, .ref 109, .ref 110, .int 0, .int 0, .int 0, .int 0, .int 0, .int 0, .int 0, .int (-1), .int 0, .int 0, .int 0, .ref 111, .ref 112, .int 0, .ref 113, .ref 114, .ref 115, .int 0, .int 0, .ref 116, .ref 117, .ref 118, .ref 119, .ref 120, .ref 121, .ref 122, .ref 123, .ref 124, .ref 125, .ref 126, .ref 127, .ref 128, .ref 129, .ref 130, .ref 131, .int 0, .ref 132, .int 0, .ref 133, .int 0, .ref 134, .ref 135, .ref 136, .ref 137, .ref 138, .ref 139, .ref 140, .ref 141, .ref 142, .ref 143, .ref 144, .ref 145, .ref 146, .int 0, .long 0, .int 0, .int 0, .ref 147]))) 99 (.inr (13, [.int 1, .int 0, .int 0, .ref 100, .ref 101, .ref 102, .ref 103, .ref 104, .ref 105, .ref 106, .ref 107, .ref 108, .ref 109, .ref 110, .int 0, .int 0, .int 0, .int 0, .int 0, .int 0, .int 0, .int (-1), .int 0, .int 0, .int 0, .ref 111, .ref 112, .int 0, .ref 113, .ref 114, .ref 115, .int 0, .int 0, .ref 116, .ref 117, .ref 118, .ref 119, .ref 120, .ref 121, .ref 122, .ref 123, .ref 124, .ref 125, .ref 126, .ref 127, .ref 128, .ref 129, .ref 130, .ref 131, .int 0, .ref 132, .int 0, .ref 133, .int 0, .ref 134, .ref 135, .ref 136, .ref 137, .ref 138, .ref 139, .ref 140, .ref 141, .ref 142, .ref 143, .ref 144, .ref 145, .ref 146, .int 0, .long 0, .int 0, .int 0, .ref 147]))) nx) := by
  refine mj_enter (by decide) (Nat.le_of_ble_eq_true rfl) ?_
  refine mv_aload_n d_TrustDeskModel_fundOf_0 rfl rfl ?_
  refine mv_iconst (v := 0) d_TrustDeskModel_fundOf_1 (by decide) ?_
  refine mv_put (fs' := [.int 0, .int 0, .int 0, .ref 100, .ref 101, .ref 102, .ref 103, .ref 104, .ref 105, .ref 106, .ref 107, .ref 108, .ref 109, .ref 110, .int 0, .int 0, .int 0, .int 0, .int 0, .int 0, .int 0, .int (-1), .int 0, .int 0, .int 0, .ref 111, .ref 112, .int 0, .ref 113, .ref 114, .ref 115, .int 0, .int 0, .ref 116, .ref 117, .ref 118, .ref 119, .ref 120, .ref 121, .ref 122, .ref 123, .ref 124, .ref 125, .ref 126, .ref 127, .ref 128, .ref 129, .ref 130, .ref 131, .int 0, .ref 132, .int 0, .ref 133, .int 0, .ref 134, .ref 135, .ref 136, .ref 137, .ref 138, .ref 139, .ref 140, .ref 141, .ref 142, .ref 143, .ref 144, .ref 145, .ref 146, .int 0, .long 0, .int 0, .int 0, .ref 147]) d_TrustDeskModel_fundOf_2 p_TrustDeskModel_1_13 h_99 (Nat.le_of_ble_eq_true rfl) rfl rfl rfl ?_
  refine mv_aload_n d_TrustDeskModel_fundOf_5 rfl rfl ?_
  refine mv_iload_n d_TrustDeskModel_fundOf_6 rfl rfl ?_
  refine mv_callV_s (kc' := 0) (ks' := 0) [.int x1] [.int x1, .ref 99] d_TrustDeskModel_fundOf_7 lV_TrustDeskModel_418 (mj_up_self _ _ _) rfl (c_TrustDeskModel_isFund_0 (d := d) (x1 := x1) (h_99 := (mj_up_self _ _ _))) rfl (Nat.le_of_ble_eq_true rfl) (Nat.le_of_ble_eq_true rfl) (Nat.le_of_ble_eq_true rfl) rfl ?_
  refine mv_if_eq_t (tgt := 25) d_TrustDeskModel_fundOf_10 (by decide) (by decide) ?_
  refine mv_aload_n d_TrustDeskModel_fundOf_25 rfl rfl ?_
  refine mv_iconst (v := 1) d_TrustDeskModel_fundOf_26 (by decide) ?_
  refine mv_put (fs' := [.int 1, .int 0, .int 0, .ref 100, .ref 101, .ref 102, .ref 103, .ref 104, .ref 105, .ref 106, .ref 107, .ref 108, .ref 109, .ref 110, .int 0, .int 0, .int 0, .int 0, .int 0, .int 0, .int 0, .int (-1), .int 0, .int 0, .int 0, .ref 111, .ref 112, .int 0, .ref 113, .ref 114, .ref 115, .int 0, .int 0, .ref 116, .ref 117, .ref 118, .ref 119, .ref 120, .ref 121, .ref 122, .ref 123, .ref 124, .ref 125, .ref 126, .ref 127, .ref 128, .ref 129, .ref 130, .ref 131, .int 0, .ref 132, .int 0, .ref 133, .int 0, .ref 134, .ref 135, .ref 136, .ref 137, .ref 138, .ref 139, .ref 140, .ref 141, .ref 142, .ref 143, .ref 144, .ref 145, .ref 146, .int 0, .long 0, .int 0, .int 0, .ref 147]) d_TrustDeskModel_fundOf_27 p_TrustDeskModel_1_13 (mj_up_self _ _ _) (Nat.le_of_ble_eq_true rfl) rfl rfl rfl ?_
  refine mv_iconst (v := 0) d_TrustDeskModel_fundOf_30 (by decide) ?_
  exact mv_iret d_TrustDeskModel_fundOf_31 rfl (by first | rfl | decide) ⟨rfl, rfl, rfl⟩
abbrev kY_TrustDeskModel_coin : mj_Y := (⟨"TrustDeskModel", "coin", "(I)J"⟩, prog_14_method_103_code, 2, (Option.some Jvm.ClassFile.FieldType.long))
theorem d_TrustDeskModel_coin_0 : decode kY_TrustDeskModel_coin.2.1 0 = .ok (.aload_n 0, 1) := by decide +kernel
theorem d_TrustDeskModel_coin_1 : decode kY_TrustDeskModel_coin.2.1 1 = .ok (.iconst 0, 1) := by decide +kernel
theorem d_TrustDeskModel_coin_2 : decode kY_TrustDeskModel_coin.2.1 2 = .ok (.putfield 1, 3) := by decide +kernel
theorem d_TrustDeskModel_coin_5 : decode kY_TrustDeskModel_coin.2.1 5 = .ok (.aload_n 0, 1) := by decide +kernel
theorem d_TrustDeskModel_coin_6 : decode kY_TrustDeskModel_coin.2.1 6 = .ok (.iload_n 1, 1) := by decide +kernel
theorem d_TrustDeskModel_coin_7 : decode kY_TrustDeskModel_coin.2.1 7 = .ok (.invokevirtual 418, 3) := by decide +kernel
theorem d_TrustDeskModel_coin_10 : decode kY_TrustDeskModel_coin.2.1 10 = .ok (.ifCond .eq 12, 3) := by decide +kernel
theorem d_TrustDeskModel_coin_22 : decode kY_TrustDeskModel_coin.2.1 22 = .ok (.ldc2_w 590, 3) := by decide +kernel
theorem k_TrustDeskModel_590 : Cond.constantLong "TrustDeskModel" 590 (-1) ∈ mj_T := (mj_in1 (List.mem_of_getElem? (i := 2040) (by decide +kernel)) rfl)
theorem d_TrustDeskModel_coin_25 : decode kY_TrustDeskModel_coin.2.1 25 = .ok (.lreturn, 1) := by decide +kernel
theorem c_TrustDeskModel_coin_0 {g : mj_G} {l : Launch} {d nx : Nat} {M : mj_M} {x1 : Int32} (h_99 : M 99 = some (.inr (13, [.int 0, .int 0, .int 0, .ref 100, .ref 101, .ref 102, .ref 103, .ref 104, .ref 105, .ref 106, .ref 107, .ref 108, .ref 109, .ref 110, .int 0, .int 0, .int 0, .int 0, .int 0, .int 0, .int 0, .int (-1), .int 0, .int 0, .int 0, .ref 111, .ref 112, .int 0, .ref 113, .ref 114, .ref 115, .int 0, .int 0, .ref 116, .ref 117, .ref 118, .ref 119, .ref 120, .ref 121, .ref 122, .ref 123, .ref 124, .ref 125, .ref 126, .ref 127, .ref 128, .ref 129, .ref 130, .ref 131, .int 0, .ref 132, .int 0, .ref 133, .int 0, .ref 134, .ref 135, .ref 136, .ref 137, .ref 138, .ref 139, .ref 140, .ref 141, .ref 142, .ref 143, .ref 144, .ref 145, .ref 146, .int 0, .long 0, .int 0, .int 0, .ref 147]))) : mj_Met g l kY_TrustDeskModel_coin (d + 1) [.ref 99, .int x1] M nx 0 0 (mj_E1 (some (.long (-1))) (mj_up M 99 (.inr (13, [.int 0, .int 0, .int 0, .ref 100, .ref 101, .ref 102, .ref 103, .ref 104, .ref 105, .ref 106, .ref 107, .ref 108, .ref 109, .ref 110, .int 0, .int 0, .int 0, .int 0, .int 0, .int 0, .int 0, .int (-1), .int 0, .int 0, .int 0, .ref 111, .ref 112, .int 0, .ref 113, .ref 114, .ref 115, .int 0, .int 0, .ref 116, .ref 117, .ref 118, .ref 119, .ref 120, .ref 121, .ref 122, .ref 123, .ref 124, .ref 125, .ref 126, .ref 127, .ref 128, .ref 129, .ref 130, .ref 131, .int 0, .ref 132, .int 0, .ref 133, .int 0, .ref 134, .ref 135, .ref 136, .ref 137, .ref 138, .ref 139, .ref 140, .ref 141, .ref 142, .ref 143, .ref 144, .ref 145, .ref 146, .int 0, .long 0, .int 0, .int 0, .ref 147]))) nx) := by
  refine mj_enter (by decide) (Nat.le_of_ble_eq_true rfl) ?_
  refine mv_aload_n d_TrustDeskModel_coin_0 rfl rfl ?_
  refine mv_iconst (v := 0) d_TrustDeskModel_coin_1 (by decide) ?_
  refine mv_put (fs' := [.int 0, .int 0, .int 0, .ref 100, .ref 101, .ref 102, .ref 103, .ref 104, .ref 105, .ref 106, .ref 107, .ref 108, .ref 109, .ref 110, .int 0, .int 0, .int 0, .int 0, .int 0, .int 0, .int 0, .int (-1), .int 0, .int 0, .int 0, .ref 111, .ref 112, .int 0, .ref 113, .ref 114, .ref 115, .int 0, .int 0, .ref 116, .ref 117, .ref 118, .ref 119, .ref 120, .ref 121, .ref 122, .ref 123, .ref 124, .ref 125, .ref 126, .ref 127, .ref 128, .ref 129, .ref 130, .ref 131, .int 0, .ref 132, .int 0, .ref 133, .int 0, .ref 134, .ref 135, .ref 136, .ref 137, .ref 138, .ref 139, .ref 140, .ref 141, .ref 142, .ref 143, .ref 144, .ref 145, .ref 146, .int 0, .long 0, .int 0, .int 0, .ref 147]) d_TrustDeskModel_coin_2 p_TrustDeskModel_1_13 h_99 (Nat.le_of_ble_eq_true rfl) rfl rfl rfl ?_
  refine mv_aload_n d_TrustDeskModel_coin_5 rfl rfl ?_
  refine mv_iload_n d_TrustDeskModel_coin_6 rfl rfl ?_
  refine mv_callV_s (kc' := 0) (ks' := 0) [.int x1] [.int x1, .ref 99] d_TrustDeskModel_coin_7 lV_TrustDeskModel_418 (mj_up_self _ _ _) rfl (c_TrustDeskModel_isFund_0 (d := d) (x1 := x1) (h_99 := (mj_up_self _ _ _))) rfl (Nat.le_of_ble_eq_true rfl) (Nat.le_of_ble_eq_true rfl) (Nat.le_of_ble_eq_true rfl) rfl ?_
  refine mv_if_eq_t (tgt := 22) d_TrustDeskModel_coin_10 (by decide) (by decide) ?_
  refine mv_ldc2 d_TrustDeskModel_coin_22 k_TrustDeskModel_590 ?_
  exact mv_lret d_TrustDeskModel_coin_25 rfl ⟨rfl, rfl, rfl⟩
abbrev kY_TrustDeskModel_income : mj_Y := (⟨"TrustDeskModel", "income", "(III)I"⟩, prog_14_method_104_code, 4, (Option.some Jvm.ClassFile.FieldType.int))
theorem d_TrustDeskModel_income_0 : decode kY_TrustDeskModel_income.2.1 0 = .ok (.aload_n 0, 1) := by decide +kernel
theorem d_TrustDeskModel_income_1 : decode kY_TrustDeskModel_income.2.1 1 = .ok (.iconst 0, 1) := by decide +kernel
theorem d_TrustDeskModel_income_2 : decode kY_TrustDeskModel_income.2.1 2 = .ok (.putfield 1, 3) := by decide +kernel
theorem d_TrustDeskModel_income_5 : decode kY_TrustDeskModel_income.2.1 5 = .ok (.aload_n 0, 1) := by decide +kernel
theorem d_TrustDeskModel_income_6 : decode kY_TrustDeskModel_income.2.1 6 = .ok (.iload_n 1, 1) := by decide +kernel
theorem d_TrustDeskModel_income_7 : decode kY_TrustDeskModel_income.2.1 7 = .ok (.invokevirtual 418, 3) := by decide +kernel
theorem d_TrustDeskModel_income_10 : decode kY_TrustDeskModel_income.2.1 10 = .ok (.ifCond .eq 28, 3) := by decide +kernel
theorem d_TrustDeskModel_income_38 : decode kY_TrustDeskModel_income.2.1 38 = .ok (.iconst (-1), 1) := by decide +kernel
theorem d_TrustDeskModel_income_39 : decode kY_TrustDeskModel_income.2.1 39 = .ok (.ireturn, 1) := by decide +kernel
theorem c_TrustDeskModel_income_0 {g : mj_G} {l : Launch} {d nx : Nat} {M : mj_M} {x1 : Int32} {x2 : Int32} {x3 : Int32} (h_99 : M 99 = some (.inr (13, [.int 0, .int 0, .int 0, .ref 100, .ref 101, .ref 102, .ref 103, .ref 104, .ref 105, .ref 106, .ref 107, .ref 108, .ref 109, .ref 110, .int 0, .int 0, .int 0, .int 0, .int 0, .int 0, .int 0, .int (-1), .int 0, .int 0, .int 0, .ref 111, .ref 112, .int 0, .ref 113, .ref 114, .ref 115, .int 0, .int 0, .ref 116, .ref 117, .ref 118, .ref 119, .ref 120, .ref 121, .ref 122, .ref 123, .ref 124, .ref 125, .ref 126, .ref 127, .ref 128, .ref 129, .ref 130, .ref 131, .int 0, .ref 132, .int 0, .ref 133, .int 0, .ref 134, .ref 135, .ref 136, .ref 137, .ref 138, .ref 139, .ref 140, .ref 141, .ref 142, .ref 143, .ref 144, .ref 145, .ref 146, .int 0, .long 0, .int 0, .int 0, .ref 147]))) : mj_Met g l kY_TrustDeskModel_income (d + 1) [.ref 99, .int x1, .int x2, .int x3] M nx 0 0 (mj_E1 (some (.int (-1))) (mj_up M 99 (.inr (13, [.int 0, .int 0, .int 0, .ref 100, .ref 101, .ref 102, .ref 103, .ref 104, .ref 105, .ref 106, .ref 107, .ref 108, .ref 109, .ref 110, .int 0, .int 0, .int 0, .int 0, .int 0, .int 0, .int 0, .int (-1), .int 0, .int 0, .int 0, .ref 111, .ref 112, .int 0, .ref 113, .ref 114, .ref 115, .int 0, .int 0, .ref 116, .ref 117, .ref 118, .ref 119, .ref 120, .ref 121, .ref 122, .ref 123, .ref 124, .ref 125, .ref 126, .ref 127, .ref 128, .ref 129, .ref 130, .ref 131, .int 0, .ref 132, .int 0, .ref 133, .int 0, .ref 134, .ref 135, .ref 136, .ref 137, .ref 138, .ref 139, .ref 140, .ref 141, .ref 142, .ref 143, .ref 144, .ref 145, .ref 146, .int 0, .long 0, .int 0, .int 0, .ref 147]))) nx) := by
  refine mj_enter (by decide) (Nat.le_of_ble_eq_true rfl) ?_
  refine mv_aload_n d_TrustDeskModel_income_0 rfl rfl ?_
  refine mv_iconst (v := 0) d_TrustDeskModel_income_1 (by decide) ?_
  refine mv_put (fs' := [.int 0, .int 0, .int 0, .ref 100, .ref 101, .ref 102, .ref 103, .ref 104, .ref 105, .ref 106, .ref 107, .ref 108, .ref 109, .ref 110, .int 0, .int 0, .int 0, .int 0, .int 0, .int 0, .int 0, .int (-1), .int 0, .int 0, .int 0, .ref 111, .ref 112, .int 0, .ref 113, .ref 114, .ref 115, .int 0, .int 0, .ref 116, .ref 117, .ref 118, .ref 119, .ref 120, .ref 121, .ref 122, .ref 123, .ref 124, .ref 125, .ref 126, .ref 127, .ref 128, .ref 129, .ref 130, .ref 131, .int 0, .ref 132, .int 0, .ref 133, .int 0, .ref 134, .ref 135, .ref 136, .ref 137, .ref 138, .ref 139, .ref 140, .ref 141, .ref 142, .ref 143, .ref 144, .ref 145, .ref 146, .int 0, .long 0, .int 0, .int 0, .ref 147]) d_TrustDeskModel_income_2 p_TrustDeskModel_1_13 h_99 (Nat.le_of_ble_eq_true rfl) rfl rfl rfl ?_
  refine mv_aload_n d_TrustDeskModel_income_5 rfl rfl ?_
  refine mv_iload_n d_TrustDeskModel_income_6 rfl rfl ?_
  refine mv_callV_s (kc' := 0) (ks' := 0) [.int x1] [.int x1, .ref 99] d_TrustDeskModel_income_7 lV_TrustDeskModel_418 (mj_up_self _ _ _) rfl (c_TrustDeskModel_isFund_0 (d := d) (x1 := x1) (h_99 := (mj_up_self _ _ _))) rfl (Nat.le_of_ble_eq_true rfl) (Nat.le_of_ble_eq_true rfl) (Nat.le_of_ble_eq_true rfl) rfl ?_
  refine mv_if_eq_t (tgt := 38) d_TrustDeskModel_income_10 (by decide) (by decide) ?_
  refine mv_iconst (v := (-1)) d_TrustDeskModel_income_38 (by decide) ?_
  exact mv_iret d_TrustDeskModel_income_39 rfl (by first | rfl | decide) ⟨rfl, rfl, rfl⟩
abbrev kY_TrustDeskModel_part_1 : mj_Y := (⟨"TrustDeskModel", "part", "(II)I"⟩, prog_14_method_105_code, 3, (Option.some Jvm.ClassFile.FieldType.int))
theorem d_TrustDeskModel_part_1_0 : decode kY_TrustDeskModel_part_1.2.1 0 = .ok (.aload_n 0, 1) := by decide +kernel
theorem d_TrustDeskModel_part_1_1 : decode kY_TrustDeskModel_part_1.2.1 1 = .ok (.iconst 0, 1) := by decide +kernel
theorem d_TrustDeskModel_part_1_2 : decode kY_TrustDeskModel_part_1.2.1 2 = .ok (.putfield 1, 3) := by decide +kernel
theorem d_TrustDeskModel_part_1_5 : decode kY_TrustDeskModel_part_1.2.1 5 = .ok (.aload_n 0, 1) := by decide +kernel
theorem d_TrustDeskModel_part_1_6 : decode kY_TrustDeskModel_part_1.2.1 6 = .ok (.iload_n 1, 1) := by decide +kernel
theorem d_TrustDeskModel_part_1_7 : decode kY_TrustDeskModel_part_1.2.1 7 = .ok (.invokevirtual 418, 3) := by decide +kernel
theorem d_TrustDeskModel_part_1_10 : decode kY_TrustDeskModel_part_1.2.1 10 = .ok (.ifCond .eq 25, 3) := by decide +kernel
theorem d_TrustDeskModel_part_1_35 : decode kY_TrustDeskModel_part_1.2.1 35 = .ok (.iconst (-1), 1) := by decide +kernel
theorem d_TrustDeskModel_part_1_36 : decode kY_TrustDeskModel_part_1.2.1 36 = .ok (.ireturn, 1) := by decide +kernel
theorem c_TrustDeskModel_part_1_0 {g : mj_G} {l : Launch} {d nx : Nat} {M : mj_M} {x1 : Int32} {x2 : Int32} (h_99 : M 99 = some (.inr (13, [.int 0, .int 0, .int 0, .ref 100, .ref 101, .ref 102, .ref 103, .ref 104, .ref 105, .ref 106, .ref 107, .ref 108, .ref 109, .ref 110, .int 0, .int 0, .int 0, .int 0, .int 0, .int 0, .int 0, .int (-1), .int 0, .int 0, .int 0, .ref 111, .ref 112, .int 0, .ref 113, .ref 114, .ref 115, .int 0, .int 0, .ref 116, .ref 117, .ref 118, .ref 119, .ref 120, .ref 121, .ref 122, .ref 123, .ref 124, .ref 125, .ref 126, .ref 127, .ref 128, .ref 129, .ref 130, .ref 131, .int 0, .ref 132, .int 0, .ref 133, .int 0, .ref 134, .ref 135, .ref 136, .ref 137, .ref 138, .ref 139, .ref 140, .ref 141, .ref 142, .ref 143, .ref 144, .ref 145, .ref 146, .int 0, .long 0, .int 0, .int 0, .ref 147]))) : mj_Met g l kY_TrustDeskModel_part_1 (d + 1) [.ref 99, .int x1, .int x2] M nx 0 0 (mj_E1 (some (.int (-1))) (mj_up M 99 (.inr (13, [.int 0, .int 0, .int 0, .ref 100, .ref 101, .ref 102, .ref 103, .ref 104, .ref 105, .ref 106, .ref 107, .ref 108, .ref 109, .ref 110, .int 0, .int 0, .int 0, .int 0, .int 0, .int 0, .int 0, .int (-1), .int 0, .int 0, .int 0, .ref 111, .ref 112, .int 0, .ref 113, .ref 114, .ref 115, .int 0, .int 0, .ref 116, .ref 117, .ref 118, .ref 119, .ref 120, .ref 121, .ref 122, .ref 123, .ref 124, .ref 125, .ref 126, .ref 127, .ref 128, .ref 129, .ref 130, .ref 131, .int 0, .ref 132, .int 0, .ref 133, .int 0, .ref 134, .ref 135, .ref 136, .ref 137, .ref 138, .ref 139, .ref 140, .ref 141, .ref 142, .ref 143, .ref 144, .ref 145, .ref 146, .int 0, .long 0, .int 0, .int 0, .ref 147]))) nx) := by
  refine mj_enter (by decide) (Nat.le_of_ble_eq_true rfl) ?_
  refine mv_aload_n d_TrustDeskModel_part_1_0 rfl rfl ?_
  refine mv_iconst (v := 0) d_TrustDeskModel_part_1_1 (by decide) ?_
  refine mv_put (fs' := [.int 0, .int 0, .int 0, .ref 100, .ref 101, .ref 102, .ref 103, .ref 104, .ref 105, .ref 106, .ref 107, .ref 108, .ref 109, .ref 110, .int 0, .int 0, .int 0, .int 0, .int 0, .int 0, .int 0, .int (-1), .int 0, .int 0, .int 0, .ref 111, .ref 112, .int 0, .ref 113, .ref 114, .ref 115, .int 0, .int 0, .ref 116, .ref 117, .ref 118, .ref 119, .ref 120, .ref 121, .ref 122, .ref 123, .ref 124, .ref 125, .ref 126, .ref 127, .ref 128, .ref 129, .ref 130, .ref 131, .int 0, .ref 132, .int 0, .ref 133, .int 0, .ref 134, .ref 135, .ref 136, .ref 137, .ref 138, .ref 139, .ref 140, .ref 141, .ref 142, .ref 143, .ref 144, .ref 145, .ref 146, .int 0, .long 0, .int 0, .int 0, .ref 147]) d_TrustDeskModel_part_1_2 p_TrustDeskModel_1_13 h_99 (Nat.le_of_ble_eq_true rfl) rfl rfl rfl ?_
  refine mv_aload_n d_TrustDeskModel_part_1_5 rfl rfl ?_
  refine mv_iload_n d_TrustDeskModel_part_1_6 rfl rfl ?_
  refine mv_callV_s (kc' := 0) (ks' := 0) [.int x1] [.int x1, .ref 99] d_TrustDeskModel_part_1_7 lV_TrustDeskModel_418 (mj_up_self _ _ _) rfl (c_TrustDeskModel_isFund_0 (d := d) (x1 := x1) (h_99 := (mj_up_self _ _ _))) rfl (Nat.le_of_ble_eq_true rfl) (Nat.le_of_ble_eq_true rfl) (Nat.le_of_ble_eq_true rfl) rfl ?_
  refine mv_if_eq_t (tgt := 35) d_TrustDeskModel_part_1_10 (by decide) (by decide) ?_
  refine mv_iconst (v := (-1)) d_TrustDeskModel_part_1_35 (by decide) ?_
  exact mv_iret d_TrustDeskModel_part_1_36 rfl (by first | rfl | decide) ⟨rfl, rfl, rfl⟩
abbrev kY_TrustDeskModel_paid : mj_Y := (⟨"TrustDeskModel", "paid", "(I)J"⟩, prog_14_method_106_code, 2, (Option.some Jvm.ClassFile.FieldType.long))
theorem d_TrustDeskModel_paid_0 : decode kY_TrustDeskModel_paid.2.1 0 = .ok (.aload_n 0, 1) := by decide +kernel
theorem d_TrustDeskModel_paid_1 : decode kY_TrustDeskModel_paid.2.1 1 = .ok (.iconst 0, 1) := by decide +kernel
theorem d_TrustDeskModel_paid_2 : decode kY_TrustDeskModel_paid.2.1 2 = .ok (.putfield 1, 3) := by decide +kernel
theorem d_TrustDeskModel_paid_5 : decode kY_TrustDeskModel_paid.2.1 5 = .ok (.aload_n 0, 1) := by decide +kernel
theorem d_TrustDeskModel_paid_6 : decode kY_TrustDeskModel_paid.2.1 6 = .ok (.iload_n 1, 1) := by decide +kernel
theorem d_TrustDeskModel_paid_7 : decode kY_TrustDeskModel_paid.2.1 7 = .ok (.invokevirtual 418, 3) := by decide +kernel
theorem d_TrustDeskModel_paid_10 : decode kY_TrustDeskModel_paid.2.1 10 = .ok (.ifCond .eq 12, 3) := by decide +kernel
theorem d_TrustDeskModel_paid_22 : decode kY_TrustDeskModel_paid.2.1 22 = .ok (.ldc2_w 590, 3) := by decide +kernel
theorem d_TrustDeskModel_paid_25 : decode kY_TrustDeskModel_paid.2.1 25 = .ok (.lreturn, 1) := by decide +kernel
theorem c_TrustDeskModel_paid_0 {g : mj_G} {l : Launch} {d nx : Nat} {M : mj_M} {x1 : Int32} (h_99 : M 99 = some (.inr (13, [.int 0, .int 0, .int 0, .ref 100, .ref 101, .ref 102, .ref 103, .ref 104, .ref 105, .ref 106, .ref 107, .ref 108, .ref 109, .ref 110, .int 0, .int 0, .int 0, .int 0, .int 0, .int 0, .int 0, .int (-1), .int 0, .int 0, .int 0, .ref 111, .ref 112, .int 0, .ref 113, .ref 114, .ref 115, .int 0, .int 0, .ref 116, .ref 117, .ref 118, .ref 119, .ref 120, .ref 121, .ref 122, .ref 123, .ref 124, .ref 125, .ref 126, .ref 127, .ref 128, .ref 129, .ref 130, .ref 131, .int 0, .ref 132, .int 0, .ref 133, .int 0, .ref 134, .ref 135, .ref 136, .ref 137, .ref 138, .ref 139, .ref 140, .ref 141, .ref 142, .ref 143, .ref 144, .ref 145, .ref 146, .int 0, .long 0, .int 0, .int 0, .ref 147]))) : mj_Met g l kY_TrustDeskModel_paid (d + 1) [.ref 99, .int x1] M nx 0 0 (mj_E1 (some (.long (-1))) (mj_up M 99 (.inr (13, [.int 0, .int 0, .int 0, .ref 100, .ref 101, .ref 102, .ref 103, .ref 104, .ref 105, .ref 106, .ref 107, .ref 108, .ref 109, .ref 110, .int 0, .int 0, .int 0, .int 0, .int 0, .int 0, .int 0, .int (-1), .int 0, .int 0, .int 0, .ref 111, .ref 112, .int 0, .ref 113, .ref 114, .ref 115, .int 0, .int 0, .ref 116, .ref 117, .ref 118, .ref 119, .ref 120, .ref 121, .ref 122, .ref 123, .ref 124, .ref 125, .ref 126, .ref 127, .ref 128, .ref 129, .ref 130, .ref 131, .int 0, .ref 132, .int 0, .ref 133, .int 0, .ref 134, .ref 135, .ref 136, .ref 137, .ref 138, .ref 139, .ref 140, .ref 141, .ref 142, .ref 143, .ref 144, .ref 145, .ref 146, .int 0, .long 0, .int 0, .int 0, .ref 147]))) nx) := by
  refine mj_enter (by decide) (Nat.le_of_ble_eq_true rfl) ?_
  refine mv_aload_n d_TrustDeskModel_paid_0 rfl rfl ?_
  refine mv_iconst (v := 0) d_TrustDeskModel_paid_1 (by decide) ?_
  refine mv_put (fs' := [.int 0, .int 0, .int 0, .ref 100, .ref 101, .ref 102, .ref 103, .ref 104, .ref 105, .ref 106, .ref 107, .ref 108, .ref 109, .ref 110, .int 0, .int 0, .int 0, .int 0, .int 0, .int 0, .int 0, .int (-1), .int 0, .int 0, .int 0, .ref 111, .ref 112, .int 0, .ref 113, .ref 114, .ref 115, .int 0, .int 0, .ref 116, .ref 117, .ref 118, .ref 119, .ref 120, .ref 121, .ref 122, .ref 123, .ref 124, .ref 125, .ref 126, .ref 127, .ref 128, .ref 129, .ref 130, .ref 131, .int 0, .ref 132, .int 0, .ref 133, .int 0, .ref 134, .ref 135, .ref 136, .ref 137, .ref 138, .ref 139, .ref 140, .ref 141, .ref 142, .ref 143, .ref 144, .ref 145, .ref 146, .int 0, .long 0, .int 0, .int 0, .ref 147]) d_TrustDeskModel_paid_2 p_TrustDeskModel_1_13 h_99 (Nat.le_of_ble_eq_true rfl) rfl rfl rfl ?_
  refine mv_aload_n d_TrustDeskModel_paid_5 rfl rfl ?_
  refine mv_iload_n d_TrustDeskModel_paid_6 rfl rfl ?_
  refine mv_callV_s (kc' := 0) (ks' := 0) [.int x1] [.int x1, .ref 99] d_TrustDeskModel_paid_7 lV_TrustDeskModel_418 (mj_up_self _ _ _) rfl (c_TrustDeskModel_isFund_0 (d := d) (x1 := x1) (h_99 := (mj_up_self _ _ _))) rfl (Nat.le_of_ble_eq_true rfl) (Nat.le_of_ble_eq_true rfl) (Nat.le_of_ble_eq_true rfl) rfl ?_
  refine mv_if_eq_t (tgt := 22) d_TrustDeskModel_paid_10 (by decide) (by decide) ?_
  refine mv_ldc2 d_TrustDeskModel_paid_22 k_TrustDeskModel_590 ?_
  exact mv_lret d_TrustDeskModel_paid_25 rfl ⟨rfl, rfl, rfl⟩
abbrev kY_TrustDeskModel_endOf : mj_Y := (⟨"TrustDeskModel", "endOf", "(III)I"⟩, prog_14_method_107_code, 5, (Option.some Jvm.ClassFile.FieldType.int))
theorem d_TrustDeskModel_endOf_0 : decode kY_TrustDeskModel_endOf.2.1 0 = .ok (.aload_n 0, 1) := by decide +kernel
theorem d_TrustDeskModel_endOf_1 : decode kY_TrustDeskModel_endOf.2.1 1 = .ok (.iconst 0, 1) := by decide +kernel
theorem d_TrustDeskModel_endOf_2 : decode kY_TrustDeskModel_endOf.2.1 2 = .ok (.putfield 1, 3) := by decide +kernel
theorem d_TrustDeskModel_endOf_5 : decode kY_TrustDeskModel_endOf.2.1 5 = .ok (.aload_n 0, 1) := by decide +kernel
theorem d_TrustDeskModel_endOf_6 : decode kY_TrustDeskModel_endOf.2.1 6 = .ok (.iload_n 1, 1) := by decide +kernel
theorem d_TrustDeskModel_endOf_7 : decode kY_TrustDeskModel_endOf.2.1 7 = .ok (.iload_n 2, 1) := by decide +kernel
theorem d_TrustDeskModel_endOf_8 : decode kY_TrustDeskModel_endOf.2.1 8 = .ok (.invokevirtual 455, 3) := by decide +kernel
abbrev kY_TrustDeskModel_isEnd : mj_Y := (⟨"TrustDeskModel", "isEnd", "(II)Z"⟩, prog_14_method_53_code, 3, (Option.some Jvm.ClassFile.FieldType.boolean))
theorem lV_TrustDeskModel_455 : mj_lV "TrustDeskModel" 455 kY_TrustDeskModel_isEnd 2 := ⟨⟨(mj_in1 (List.mem_of_getElem? (i := 1834) (by decide +kernel)) rfl), (mj_in1 (List.mem_of_getElem? (i := 10) (by decide +kernel)) rfl), (mj_in1 (List.mem_of_getElem? (i := 1837) (by decide +kernel)) rfl), by decide, rfl, by decide⟩, (mj_in1 (List.mem_of_getElem? (i := 1836) (by decide +kernel)) rfl), (mj_in (List.mem_append_left _ (List.mem_of_getElem? (i := 111) (by decide +kernel))) rfl)⟩
theorem d_TrustDeskModel_isEnd_0 : decode kY_TrustDeskModel_isEnd.2.1 0 = .ok (.aload_n 0, 1) := by decide +kernel
theorem d_TrustDeskModel_isEnd_1 : decode kY_TrustDeskModel_isEnd.2.1 1 = .ok (.iload_n 1, 1) := by decide +kernel
theorem d_TrustDeskModel_isEnd_2 : decode kY_TrustDeskModel_isEnd.2.1 2 = .ok (.invokevirtual 418, 3) := by decide +kernel
theorem d_TrustDeskModel_isEnd_5 : decode kY_TrustDeskModel_isEnd.2.1 5 = .ok (.ifCond .eq 21, 3) := by decide +kernel
theorem d_TrustDeskModel_isEnd_26 : decode kY_TrustDeskModel_isEnd.2.1 26 = .ok (.iconst 0, 1) := by decide +kernel
theorem d_TrustDeskModel_isEnd_27 : decode kY_TrustDeskModel_isEnd.2.1 27 = .ok (.ireturn, 1) := by decide +kernel
theorem c_TrustDeskModel_isEnd_0 {g : mj_G} {l : Launch} {d nx : Nat} {M : mj_M} {x1 : Int32} {x2 : Int32} (h_99 : M 99 = some (.inr (13, [.int 0, .int 0, .int 0, .ref 100, .ref 101, .ref 102, .ref 103, .ref 104, .ref 105, .ref 106, .ref 107, .ref 108, .ref 109, .ref 110, .int 0, .int 0, .int 0, .int 0, .int 0, .int 0, .int 0, .int (-1), .int 0, .int 0, .int 0, .ref 111, .ref 112, .int 0, .ref 113, .ref 114, .ref 115, .int 0, .int 0, .ref 116, .ref 117, .ref 118, .ref 119, .ref 120, .ref 121, .ref 122, .ref 123, .ref 124, .ref 125, .ref 126, .ref 127, .ref 128, .ref 129, .ref 130, .ref 131, .int 0, .ref 132, .int 0, .ref 133, .int 0, .ref 134, .ref 135, .ref 136, .ref 137, .ref 138, .ref 139, .ref 140, .ref 141, .ref 142, .ref 143, .ref 144, .ref 145, .ref 146, .int 0, .long 0, .int 0, .int 0, .ref 147]))) : mj_Met g l kY_TrustDeskModel_isEnd (d + 1) [.ref 99, .int x1, .int x2] M nx 0 0 (mj_E1 (some (.int 0)) M nx) := by
  refine mj_enter (by decide) (Nat.le_of_ble_eq_true rfl) ?_
  refine mv_aload_n d_TrustDeskModel_isEnd_0 rfl rfl ?_
  refine mv_iload_n d_TrustDeskModel_isEnd_1 rfl rfl ?_
  refine mv_callV_s (kc' := 0) (ks' := 0) [.int x1] [.int x1, .ref 99] d_TrustDeskModel_isEnd_2 lV_TrustDeskModel_418 h_99 rfl (c_TrustDeskModel_isFund_0 (d := d) (x1 := x1) (h_99 := h_99)) rfl (Nat.le_of_ble_eq_true rfl) (Nat.le_of_ble_eq_true rfl) (Nat.le_of_ble_eq_true rfl) rfl ?_
  refine mv_if_eq_t (tgt := 26) d_TrustDeskModel_isEnd_5 (by decide) (by decide) ?_
  refine mv_iconst (v := 0) d_TrustDeskModel_isEnd_26 (by decide) ?_
  exact mv_iret d_TrustDeskModel_isEnd_27 rfl (by first | rfl | decide) ⟨rfl, rfl, rfl⟩
theorem d_TrustDeskModel_endOf_11 : decode kY_TrustDeskModel_endOf.2.1 11 = .ok (.ifCond .ne 5, 3) := by decide +kernel
theorem d_TrustDeskModel_endOf_14 : decode kY_TrustDeskModel_endOf.2.1 14 = .ok (.iconst (-1), 1) := by decide +kernel
theorem d_TrustDeskModel_endOf_15 : decode kY_TrustDeskModel_endOf.2.1 15 = .ok (.ireturn, 1) := by decide +kernel
theorem c_TrustDeskModel_endOf_0 {g : mj_G} {l : Launch} {d nx : Nat} {M : mj_M} {x1 : Int32} {x2 : Int32} {x3 : Int32} (h_99 : M 99 = some (.inr (13, [.int 0, .int 0, .int 0, .ref 100, .ref 101, .ref 102, .ref 103, .ref 104, .ref 105, .ref 106, .ref 107, .ref 108, .ref 109, .ref 110, .int 0, .int 0, .int 0, .int 0, .int 0, .int 0, .int 0, .int (-1), .int 0, .int 0, .int 0, .ref 111, .ref 112, .int 0, .ref 113, .ref 114, .ref 115, .int 0, .int 0, .ref 116, .ref 117, .ref 118, .ref 119, .ref 120, .ref 121, .ref 122, .ref 123, .ref 124, .ref 125, .ref 126, .ref 127, .ref 128, .ref 129, .ref 130, .ref 131, .int 0, .ref 132, .int 0, .ref 133, .int 0, .ref 134, .ref 135, .ref 136, .ref 137, .ref 138, .ref 139, .ref 140, .ref 141, .ref 142, .ref 143, .ref 144, .ref 145, .ref 146, .int 0, .long 0, .int 0, .int 0, .ref 147]))) : mj_Met g l kY_TrustDeskModel_endOf (d + 2) [.ref 99, .int x1, .int x2, .int x3] M nx 0 0 (mj_E1 (some (.int (-1))) (mj_up M 99 (.inr (13, [.int 0, .int 0, .int 0, .ref 100, .ref 101, .ref 102, .ref 103, .ref 104, .ref 105, .ref 106, .ref 107, .ref 108, .ref 109, .ref 110, .int 0, .int 0, .int 0, .int 0, .int 0, .int 0, .int 0, .int (-1), .int 0, .int 0, .int 0, .ref 111, .ref 112, .int 0, .ref 113, .ref 114, .ref 115, .int 0, .int 0, .ref 116, .ref 117, .ref 118, .ref 119, .ref 120, .ref 121, .ref 122, .ref 123, .ref 124, .ref 125, .ref 126, .ref 127, .ref 128, .ref 129, .ref 130, .ref 131, .int 0, .ref 132, .int 0, .ref 133, .int 0, .ref 134, .ref 135, .ref 136, .ref 137, .ref 138, .ref 139, .ref 140, .ref 141, .ref 142, .ref 143, .ref 144, .ref 145, .ref 146, .int 0, .long 0, .int 0, .int 0, .ref 147]))) nx) := by
  refine mj_enter (by decide) (Nat.le_of_ble_eq_true rfl) ?_
  refine mv_aload_n d_TrustDeskModel_endOf_0 rfl rfl ?_
  refine mv_iconst (v := 0) d_TrustDeskModel_endOf_1 (by decide) ?_
  refine mv_put (fs' := [.int 0, .int 0, .int 0, .ref 100, .ref 101, .ref 102, .ref 103, .ref 104, .ref 105, .ref 106, .ref 107, .ref 108, .ref 109, .ref 110, .int 0, .int 0, .int 0, .int 0, .int 0, .int 0, .int 0, .int (-1), .int 0, .int 0, .int 0, .ref 111, .ref 112, .int 0, .ref 113, .ref 114, .ref 115, .int 0, .int 0, .ref 116, .ref 117, .ref 118, .ref 119, .ref 120, .ref 121, .ref 122, .ref 123, .ref 124, .ref 125, .ref 126, .ref 127, .ref 128, .ref 129, .ref 130, .ref 131, .int 0, .ref 132, .int 0, .ref 133, .int 0, .ref 134, .ref 135, .ref 136, .ref 137, .ref 138, .ref 139, .ref 140, .ref 141, .ref 142, .ref 143, .ref 144, .ref 145, .ref 146, .int 0, .long 0, .int 0, .int 0, .ref 147]) d_TrustDeskModel_endOf_2 p_TrustDeskModel_1_13 h_99 (Nat.le_of_ble_eq_true rfl) rfl rfl rfl ?_
  refine mv_aload_n d_TrustDeskModel_endOf_5 rfl rfl ?_
  refine mv_iload_n d_TrustDeskModel_endOf_6 rfl rfl ?_
  refine mv_iload_n d_TrustDeskModel_endOf_7 rfl rfl ?_
  refine mv_callV_s (kc' := 0) (ks' := 0) [.int x1, .int x2] [.int x2, .int x1, .ref 99] d_TrustDeskModel_endOf_8 lV_TrustDeskModel_455 (mj_up_self _ _ _) rfl (c_TrustDeskModel_isEnd_0 (d := d) (x1 := x1) (x2 := x2) (h_99 := (mj_up_self _ _ _))) rfl (Nat.le_of_ble_eq_true rfl) (Nat.le_of_ble_eq_true rfl) (Nat.le_of_ble_eq_true rfl) rfl ?_
  refine mv_if_ne_f (tgt := 16) d_TrustDeskModel_endOf_11 (by decide) (by decide) ?_
  refine mv_iconst (v := (-1)) d_TrustDeskModel_endOf_14 (by decide) ?_
  exact mv_iret d_TrustDeskModel_endOf_15 rfl (by first | rfl | decide) ⟨rfl, rfl, rfl⟩
abbrev kY_TrustDeskModel_due : mj_Y := (⟨"TrustDeskModel", "due", "(IIII)I"⟩, prog_14_method_61_code, 5, (Option.some Jvm.ClassFile.FieldType.int))
theorem d_TrustDeskModel_due_0 : decode kY_TrustDeskModel_due.2.1 0 = .ok (.aload_n 0, 1) := by decide +kernel
theorem d_TrustDeskModel_due_1 : decode kY_TrustDeskModel_due.2.1 1 = .ok (.iconst 0, 1) := by decide +kernel
theorem d_TrustDeskModel_due_2 : decode kY_TrustDeskModel_due.2.1 2 = .ok (.putfield 1, 3) := by decide +kernel
theorem d_TrustDeskModel_due_5 : decode kY_TrustDeskModel_due.2.1 5 = .ok (.aload_n 0, 1) := by decide +kernel
theorem d_TrustDeskModel_due_6 : decode kY_TrustDeskModel_due.2.1 6 = .ok (.iload_n 1, 1) := by decide +kernel
theorem d_TrustDeskModel_due_7 : decode kY_TrustDeskModel_due.2.1 7 = .ok (.iload_n 2, 1) := by decide +kernel
theorem d_TrustDeskModel_due_8 : decode kY_TrustDeskModel_due.2.1 8 = .ok (.invokevirtual 455, 3) := by decide +kernel
theorem d_TrustDeskModel_due_11 : decode kY_TrustDeskModel_due.2.1 11 = .ok (.ifCond .eq 19, 3) := by decide +kernel
theorem d_TrustDeskModel_due_30 : decode kY_TrustDeskModel_due.2.1 30 = .ok (.iconst (-1), 1) := by decide +kernel
theorem d_TrustDeskModel_due_31 : decode kY_TrustDeskModel_due.2.1 31 = .ok (.ireturn, 1) := by decide +kernel
theorem c_TrustDeskModel_due_0 {g : mj_G} {l : Launch} {d nx : Nat} {M : mj_M} {x1 : Int32} {x2 : Int32} {x3 : Int32} {x4 : Int32} (h_99 : M 99 = some (.inr (13, [.int 0, .int 0, .int 0, .ref 100, .ref 101, .ref 102, .ref 103, .ref 104, .ref 105, .ref 106, .ref 107, .ref 108, .ref 109, .ref 110, .int 0, .int 0, .int 0, .int 0, .int 0, .int 0, .int 0, .int (-1), .int 0, .int 0, .int 0, .ref 111, .ref 112, .int 0, .ref 113, .ref 114, .ref 115, .int 0, .int 0, .ref 116, .ref 117, .ref 118, .ref 119, .ref 120, .ref 121, .ref 122, .ref 123, .ref 124, .ref 125, .ref 126, .ref 127, .ref 128, .ref 129, .ref 130, .ref 131, .int 0, .ref 132, .int 0, .ref 133, .int 0, .ref 134, .ref 135, .ref 136, .ref 137, .ref 138, .ref 139, .ref 140, .ref 141, .ref 142, .ref 143, .ref 144, .ref 145, .ref 146, .int 0, .long 0, .int 0, .int 0, .ref 147]))) : mj_Met g l kY_TrustDeskModel_due (d + 2) [.ref 99, .int x1, .int x2, .int x3, .int x4] M nx 0 0 (mj_E1 (some (.int (-1))) (mj_up M 99 (.inr (13, [.int 0, .int 0, .int 0, .ref 100, .ref 101, .ref 102, .ref 103, .ref 104, .ref 105, .ref 106, .ref 107, .ref 108, .ref 109, .ref 110, .int 0, .int 0, .int 0, .int 0, .int 0, .int 0, .int 0, .int (-1), .int 0, .int 0, .int 0, .ref 111, .ref 112, .int 0, .ref 113, .ref 114, .ref 115, .int 0, .int 0, .ref 116, .ref 117, .ref 118, .ref 119, .ref 120, .ref 121, .ref 122, .ref 123, .ref 124, .ref 125, .ref 126, .ref 127, .ref 128, .ref 129, .ref 130, .ref 131, .int 0, .ref 132, .int 0, .ref 133, .int 0, .ref 134, .ref 135, .ref 136, .ref 137, .ref 138, .ref 139, .ref 140, .ref 141, .ref 142, .ref 143, .ref 144, .ref 145, .ref 146, .int 0, .long 0, .int 0, .int 0, .ref 147]))) nx) := by
  refine mj_enter (by decide) (Nat.le_of_ble_eq_true rfl) ?_
  refine mv_aload_n d_TrustDeskModel_due_0 rfl rfl ?_
  refine mv_iconst (v := 0) d_TrustDeskModel_due_1 (by decide) ?_
  refine mv_put (fs' := [.int 0, .int 0, .int 0, .ref 100, .ref 101, .ref 102, .ref 103, .ref 104, .ref 105, .ref 106, .ref 107, .ref 108, .ref 109, .ref 110, .int 0, .int 0, .int 0, .int 0, .int 0, .int 0, .int 0, .int (-1), .int 0, .int 0, .int 0, .ref 111, .ref 112, .int 0, .ref 113, .ref 114, .ref 115, .int 0, .int 0, .ref 116, .ref 117, .ref 118, .ref 119, .ref 120, .ref 121, .ref 122, .ref 123, .ref 124, .ref 125, .ref 126, .ref 127, .ref 128, .ref 129, .ref 130, .ref 131, .int 0, .ref 132, .int 0, .ref 133, .int 0, .ref 134, .ref 135, .ref 136, .ref 137, .ref 138, .ref 139, .ref 140, .ref 141, .ref 142, .ref 143, .ref 144, .ref 145, .ref 146, .int 0, .long 0, .int 0, .int 0, .ref 147]) d_TrustDeskModel_due_2 p_TrustDeskModel_1_13 h_99 (Nat.le_of_ble_eq_true rfl) rfl rfl rfl ?_
  refine mv_aload_n d_TrustDeskModel_due_5 rfl rfl ?_
  refine mv_iload_n d_TrustDeskModel_due_6 rfl rfl ?_
  refine mv_iload_n d_TrustDeskModel_due_7 rfl rfl ?_
  refine mv_callV_s (kc' := 0) (ks' := 0) [.int x1, .int x2] [.int x2, .int x1, .ref 99] d_TrustDeskModel_due_8 lV_TrustDeskModel_455 (mj_up_self _ _ _) rfl (c_TrustDeskModel_isEnd_0 (d := d) (x1 := x1) (x2 := x2) (h_99 := (mj_up_self _ _ _))) rfl (Nat.le_of_ble_eq_true rfl) (Nat.le_of_ble_eq_true rfl) (Nat.le_of_ble_eq_true rfl) rfl ?_
  refine mv_if_eq_t (tgt := 30) d_TrustDeskModel_due_11 (by decide) (by decide) ?_
  refine mv_iconst (v := (-1)) d_TrustDeskModel_due_30 (by decide) ?_
  exact mv_iret d_TrustDeskModel_due_31 rfl (by first | rfl | decide) ⟨rfl, rfl, rfl⟩
abbrev kY_TrustDeskModel_why : mj_Y := (⟨"TrustDeskModel", "why", "(IIII)I"⟩, prog_14_method_62_code, 7, (Option.some Jvm.ClassFile.FieldType.int))
theorem d_TrustDeskModel_why_0 : decode kY_TrustDeskModel_why.2.1 0 = .ok (.aload_n 0, 1) := by decide +kernel
theorem d_TrustDeskModel_why_1 : decode kY_TrustDeskModel_why.2.1 1 = .ok (.iconst 0, 1) := by decide +kernel
theorem d_TrustDeskModel_why_2 : decode kY_TrustDeskModel_why.2.1 2 = .ok (.putfield 1, 3) := by decide +kernel
theorem d_TrustDeskModel_why_5 : decode kY_TrustDeskModel_why.2.1 5 = .ok (.aload_n 0, 1) := by decide +kernel
theorem d_TrustDeskModel_why_6 : decode kY_TrustDeskModel_why.2.1 6 = .ok (.iload_n 1, 1) := by decide +kernel
theorem d_TrustDeskModel_why_7 : decode kY_TrustDeskModel_why.2.1 7 = .ok (.iload_n 2, 1) := by decide +kernel
theorem d_TrustDeskModel_why_8 : decode kY_TrustDeskModel_why.2.1 8 = .ok (.invokevirtual 455, 3) := by decide +kernel
theorem d_TrustDeskModel_why_11 : decode kY_TrustDeskModel_why.2.1 11 = .ok (.ifCond .eq 19, 3) := by decide +kernel
theorem d_TrustDeskModel_why_30 : decode kY_TrustDeskModel_why.2.1 30 = .ok (.iconst (-1), 1) := by decide +kernel
theorem d_TrustDeskModel_why_31 : decode kY_TrustDeskModel_why.2.1 31 = .ok (.ireturn, 1) := by decide +kernel
theorem c_TrustDeskModel_why_0 {g : mj_G} {l : Launch} {d nx : Nat} {M : mj_M} {x1 : Int32} {x2 : Int32} {x3 : Int32} {x4 : Int32} (h_99 : M 99 = some (.inr (13, [.int 0, .int 0, .int 0, .ref 100, .ref 101, .ref 102, .ref 103, .ref 104, .ref 105, .ref 106, .ref 107, .ref 108, .ref 109, .ref 110, .int 0, .int 0, .int 0, .int 0, .int 0, .int 0, .int 0, .int (-1), .int 0, .int 0, .int 0, .ref 111, .ref 112, .int 0, .ref 113, .ref 114, .ref 115, .int 0, .int 0, .ref 116, .ref 117, .ref 118, .ref 119, .ref 120, .ref 121, .ref 122, .ref 123, .ref 124, .ref 125, .ref 126, .ref 127, .ref 128, .ref 129, .ref 130, .ref 131, .int 0, .ref 132, .int 0, .ref 133, .int 0, .ref 134, .ref 135, .ref 136, .ref 137, .ref 138, .ref 139, .ref 140, .ref 141, .ref 142, .ref 143, .ref 144, .ref 145, .ref 146, .int 0, .long 0, .int 0, .int 0, .ref 147]))) : mj_Met g l kY_TrustDeskModel_why (d + 2) [.ref 99, .int x1, .int x2, .int x3, .int x4] M nx 0 0 (mj_E1 (some (.int (-1))) (mj_up M 99 (.inr (13, [.int 0, .int 0, .int 0, .ref 100, .ref 101, .ref 102, .ref 103, .ref 104, .ref 105, .ref 106, .ref 107, .ref 108, .ref 109, .ref 110, .int 0, .int 0, .int 0, .int 0, .int 0, .int 0, .int 0, .int (-1), .int 0, .int 0, .int 0, .ref 111, .ref 112, .int 0, .ref 113, .ref 114, .ref 115, .int 0, .int 0, .ref 116, .ref 117, .ref 118, .ref 119, .ref 120, .ref 121, .ref 122, .ref 123, .ref 124, .ref 125, .ref 126, .ref 127, .ref 128, .ref 129, .ref 130, .ref 131, .int 0, .ref 132, .int 0, .ref 133, .int 0, .ref 134, .ref 135, .ref 136, .ref 137, .ref 138, .ref 139, .ref 140, .ref 141, .ref 142, .ref 143, .ref 144, .ref 145, .ref 146, .int 0, .long 0, .int 0, .int 0, .ref 147]))) nx) := by
  refine mj_enter (by decide) (Nat.le_of_ble_eq_true rfl) ?_
  refine mv_aload_n d_TrustDeskModel_why_0 rfl rfl ?_
  refine mv_iconst (v := 0) d_TrustDeskModel_why_1 (by decide) ?_
  refine mv_put (fs' := [.int 0, .int 0, .int 0, .ref 100, .ref 101, .ref 102, .ref 103, .ref 104, .ref 105, .ref 106, .ref 107, .ref 108, .ref 109, .ref 110, .int 0, .int 0, .int 0, .int 0, .int 0, .int 0, .int 0, .int (-1), .int 0, .int 0, .int 0, .ref 111, .ref 112, .int 0, .ref 113, .ref 114, .ref 115, .int 0, .int 0, .ref 116, .ref 117, .ref 118, .ref 119, .ref 120, .ref 121, .ref 122, .ref 123, .ref 124, .ref 125, .ref 126, .ref 127, .ref 128, .ref 129, .ref 130, .ref 131, .int 0, .ref 132, .int 0, .ref 133, .int 0, .ref 134, .ref 135, .ref 136, .ref 137, .ref 138, .ref 139, .ref 140, .ref 141, .ref 142, .ref 143, .ref 144, .ref 145, .ref 146, .int 0, .long 0, .int 0, .int 0, .ref 147]) d_TrustDeskModel_why_2 p_TrustDeskModel_1_13 h_99 (Nat.le_of_ble_eq_true rfl) rfl rfl rfl ?_
  refine mv_aload_n d_TrustDeskModel_why_5 rfl rfl ?_
  refine mv_iload_n d_TrustDeskModel_why_6 rfl rfl ?_
  refine mv_iload_n d_TrustDeskModel_why_7 rfl rfl ?_
  refine mv_callV_s (kc' := 0) (ks' := 0) [.int x1, .int x2] [.int x2, .int x1, .ref 99] d_TrustDeskModel_why_8 lV_TrustDeskModel_455 (mj_up_self _ _ _) rfl (c_TrustDeskModel_isEnd_0 (d := d) (x1 := x1) (x2 := x2) (h_99 := (mj_up_self _ _ _))) rfl (Nat.le_of_ble_eq_true rfl) (Nat.le_of_ble_eq_true rfl) (Nat.le_of_ble_eq_true rfl) rfl ?_
  refine mv_if_eq_t (tgt := 30) d_TrustDeskModel_why_11 (by decide) (by decide) ?_
  refine mv_iconst (v := (-1)) d_TrustDeskModel_why_30 (by decide) ?_
  exact mv_iret d_TrustDeskModel_why_31 rfl (by first | rfl | decide) ⟨rfl, rfl, rfl⟩
abbrev kY_TrustDeskModel_entry : mj_Y := (⟨"TrustDeskModel", "entry", "(II)I"⟩, prog_14_method_108_code, 3, (Option.some Jvm.ClassFile.FieldType.int))
theorem d_TrustDeskModel_entry_0 : decode kY_TrustDeskModel_entry.2.1 0 = .ok (.aload_n 0, 1) := by decide +kernel
theorem d_TrustDeskModel_entry_1 : decode kY_TrustDeskModel_entry.2.1 1 = .ok (.iconst 0, 1) := by decide +kernel
theorem d_TrustDeskModel_entry_2 : decode kY_TrustDeskModel_entry.2.1 2 = .ok (.putfield 1, 3) := by decide +kernel
theorem d_TrustDeskModel_entry_5 : decode kY_TrustDeskModel_entry.2.1 5 = .ok (.iload_n 1, 1) := by decide +kernel
theorem d_TrustDeskModel_entry_6 : decode kY_TrustDeskModel_entry.2.1 6 = .ok (.ifCond .lt 36, 3) := by decide +kernel
theorem d_TrustDeskModel_entry_42 : decode kY_TrustDeskModel_entry.2.1 42 = .ok (.iconst (-1), 1) := by decide +kernel
theorem d_TrustDeskModel_entry_43 : decode kY_TrustDeskModel_entry.2.1 43 = .ok (.ireturn, 1) := by decide +kernel
theorem d_TrustDeskModel_entry_9 : decode kY_TrustDeskModel_entry.2.1 9 = .ok (.iload_n 1, 1) := by decide +kernel
theorem d_TrustDeskModel_entry_10 : decode kY_TrustDeskModel_entry.2.1 10 = .ok (.aload_n 0, 1) := by decide +kernel
theorem d_TrustDeskModel_entry_11 : decode kY_TrustDeskModel_entry.2.1 11 = .ok (.getfield 474, 3) := by decide +kernel
theorem f_TrustDeskModel_474_13 : mj_fl "TrustDeskModel" 474 13 51 := ⟨kR_TrustDeskModel, kF_TrustDeskModel, 72, "TrustDeskModel", rfl, kg_13, by decide, (mj_in1 (List.mem_of_getElem? (i := 1441) (by decide +kernel)) rfl), Or.inl rfl⟩
theorem d_TrustDeskModel_entry_14 : decode kY_TrustDeskModel_entry.2.1 14 = .ok (.if_icmp .ge 28, 3) := by decide +kernel
theorem c_TrustDeskModel_entry_0 {g : mj_G} {l : Launch} {d nx : Nat} {M : mj_M} {x1 : Int32} {x2 : Int32} (h_99 : M 99 = some (.inr (13, [.int 0, .int 0, .int 0, .ref 100, .ref 101, .ref 102, .ref 103, .ref 104, .ref 105, .ref 106, .ref 107, .ref 108, .ref 109, .ref 110, .int 0, .int 0, .int 0, .int 0, .int 0, .int 0, .int 0, .int (-1), .int 0, .int 0, .int 0, .ref 111, .ref 112, .int 0, .ref 113, .ref 114, .ref 115, .int 0, .int 0, .ref 116, .ref 117, .ref 118, .ref 119, .ref 120, .ref 121, .ref 122, .ref 123, .ref 124, .ref 125, .ref 126, .ref 127, .ref 128, .ref 129, .ref 130, .ref 131, .int 0, .ref 132, .int 0, .ref 133, .int 0, .ref 134, .ref 135, .ref 136, .ref 137, .ref 138, .ref 139, .ref 140, .ref 141, .ref 142, .ref 143, .ref 144, .ref 145, .ref 146, .int 0, .long 0, .int 0, .int 0, .ref 147]))) : mj_Met g l kY_TrustDeskModel_entry d [.ref 99, .int x1, .int x2] M nx 0 0 (mj_E1 (some (.int (-1))) (mj_up M 99 (.inr (13, [.int 0, .int 0, .int 0, .ref 100, .ref 101, .ref 102, .ref 103, .ref 104, .ref 105, .ref 106, .ref 107, .ref 108, .ref 109, .ref 110, .int 0, .int 0, .int 0, .int 0, .int 0, .int 0, .int 0, .int (-1), .int 0, .int 0, .int 0, .ref 111, .ref 112, .int 0, .ref 113, .ref 114, .ref 115, .int 0, .int 0, .ref 116, .ref 117, .ref 118, .ref 119, .ref 120, .ref 121, .ref 122, .ref 123, .ref 124, .ref 125, .ref 126, .ref 127, .ref 128, .ref 129, .ref 130, .ref 131, .int 0, .ref 132, .int 0, .ref 133, .int 0, .ref 134, .ref 135, .ref 136, .ref 137, .ref 138, .ref 139, .ref 140, .ref 141, .ref 142, .ref 143, .ref 144, .ref 145, .ref 146, .int 0, .long 0, .int 0, .int 0, .ref 147]))) nx) := by
  refine mj_enter (by decide) (Nat.le_of_ble_eq_true rfl) ?_
  refine mv_aload_n d_TrustDeskModel_entry_0 rfl rfl ?_
  refine mv_iconst (v := 0) d_TrustDeskModel_entry_1 (by decide) ?_
  refine mv_put (fs' := [.int 0, .int 0, .int 0, .ref 100, .ref 101, .ref 102, .ref 103, .ref 104, .ref 105, .ref 106, .ref 107, .ref 108, .ref 109, .ref 110, .int 0, .int 0, .int 0, .int 0, .int 0, .int 0, .int 0, .int (-1), .int 0, .int 0, .int 0, .ref 111, .ref 112, .int 0, .ref 113, .ref 114, .ref 115, .int 0, .int 0, .ref 116, .ref 117, .ref 118, .ref 119, .ref 120, .ref 121, .ref 122, .ref 123, .ref 124, .ref 125, .ref 126, .ref 127, .ref 128, .ref 129, .ref 130, .ref 131, .int 0, .ref 132, .int 0, .ref 133, .int 0, .ref 134, .ref 135, .ref 136, .ref 137, .ref 138, .ref 139, .ref 140, .ref 141, .ref 142, .ref 143, .ref 144, .ref 145, .ref 146, .int 0, .long 0, .int 0, .int 0, .ref 147]) d_TrustDeskModel_entry_2 p_TrustDeskModel_1_13 h_99 (Nat.le_of_ble_eq_true rfl) rfl rfl rfl ?_
  refine mv_iload_n d_TrustDeskModel_entry_5 rfl rfl ?_
  refine mv_if_ltZ (tgt := 42) (a := x1.toInt) d_TrustDeskModel_entry_6 (by decide) rfl (fun b1 => ?_) (fun b1 => ?_)
  · refine mv_iconst (v := (-1)) d_TrustDeskModel_entry_42 (by decide) ?_
    exact mv_iret d_TrustDeskModel_entry_43 rfl (by first | rfl | decide) ⟨rfl, rfl, rfl⟩
  · refine mv_iload_n d_TrustDeskModel_entry_9 rfl rfl ?_
    refine mv_aload_n d_TrustDeskModel_entry_10 rfl rfl ?_
    refine mv_get d_TrustDeskModel_entry_11 f_TrustDeskModel_474_13 (mj_up_self _ _ _) rfl ?_
    refine mv_icmp_geZ (tgt := 42) (a := x1.toInt) (b := 0) d_TrustDeskModel_entry_14 (by decide) rfl (by decide) (fun b2 => ?_) (fun b2 => absurd b2 (by omega))
    refine mv_iconst (v := (-1)) d_TrustDeskModel_entry_42 (by decide) ?_
    exact mv_iret d_TrustDeskModel_entry_43 rfl (by first | rfl | decide) ⟨rfl, rfl, rfl⟩
abbrev kY_TrustDeskModel_nearest : mj_Y := (⟨"TrustDeskModel", "nearest", "(I)I"⟩, prog_14_method_90_code, 6, (Option.some Jvm.ClassFile.FieldType.int))
theorem d_TrustDeskModel_nearest_0 : decode kY_TrustDeskModel_nearest.2.1 0 = .ok (.aload_n 0, 1) := by decide +kernel
theorem d_TrustDeskModel_nearest_1 : decode kY_TrustDeskModel_nearest.2.1 1 = .ok (.iconst 0, 1) := by decide +kernel
theorem d_TrustDeskModel_nearest_2 : decode kY_TrustDeskModel_nearest.2.1 2 = .ok (.putfield 1, 3) := by decide +kernel
theorem d_TrustDeskModel_nearest_5 : decode kY_TrustDeskModel_nearest.2.1 5 = .ok (.aload_n 0, 1) := by decide +kernel
theorem d_TrustDeskModel_nearest_6 : decode kY_TrustDeskModel_nearest.2.1 6 = .ok (.iload_n 1, 1) := by decide +kernel
theorem d_TrustDeskModel_nearest_7 : decode kY_TrustDeskModel_nearest.2.1 7 = .ok (.invokevirtual 492, 3) := by decide +kernel
theorem d_TrustDeskModel_nearest_10 : decode kY_TrustDeskModel_nearest.2.1 10 = .ok (.ifCond .ne 5, 3) := by decide +kernel
theorem d_TrustDeskModel_nearest_13 : decode kY_TrustDeskModel_nearest.2.1 13 = .ok (.iconst (-1), 1) := by decide +kernel
theorem d_TrustDeskModel_nearest_14 : decode kY_TrustDeskModel_nearest.2.1 14 = .ok (.ireturn, 1) := by decide +kernel
theorem c_TrustDeskModel_nearest_0 {g : mj_G} {l : Launch} {d nx : Nat} {M : mj_M} {x1 : Int32} (h_99 : M 99 = some (.inr (13, [.int 0, .int 0, .int 0, .ref 100, .ref 101, .ref 102, .ref 103, .ref 104, .ref 105, .ref 106, .ref 107, .ref 108, .ref 109, .ref 110, .int 0, .int 0, .int 0, .int 0, .int 0, .int 0, .int 0, .int (-1), .int 0, .int 0, .int 0, .ref 111, .ref 112, .int 0, .ref 113, .ref 114, .ref 115, .int 0, .int 0, .ref 116, .ref 117, .ref 118, .ref 119, .ref 120, .ref 121, .ref 122, .ref 123, .ref 124, .ref 125, .ref 126, .ref 127, .ref 128, .ref 129, .ref 130, .ref 131, .int 0, .ref 132, .int 0, .ref 133, .int 0, .ref 134, .ref 135, .ref 136, .ref 137, .ref 138, .ref 139, .ref 140, .ref 141, .ref 142, .ref 143, .ref 144, .ref 145, .ref 146, .int 0, .long 0, .int 0, .int 0, .ref 147]))) : mj_Met g l kY_TrustDeskModel_nearest (d + 2) [.ref 99, .int x1] M nx 0 0 (mj_E1 (some (.int (-1))) (mj_up M 99 (.inr (13, [.int 0, .int 0, .int 0, .ref 100, .ref 101, .ref 102, .ref 103, .ref 104, .ref 105, .ref 106, .ref 107, .ref 108, .ref 109, .ref 110, .int 0, .int 0, .int 0, .int 0, .int 0, .int 0, .int 0, .int (-1), .int 0, .int 0, .int 0, .ref 111, .ref 112, .int 0, .ref 113, .ref 114, .ref 115, .int 0, .int 0, .ref 116, .ref 117, .ref 118, .ref 119, .ref 120, .ref 121, .ref 122, .ref 123, .ref 124, .ref 125, .ref 126, .ref 127, .ref 128, .ref 129, .ref 130, .ref 131, .int 0, .ref 132, .int 0, .ref 133, .int 0, .ref 134, .ref 135, .ref 136, .ref 137, .ref 138, .ref 139, .ref 140, .ref 141, .ref 142, .ref 143, .ref 144, .ref 145, .ref 146, .int 0, .long 0, .int 0, .int 0, .ref 147]))) nx) := by
  refine mj_enter (by decide) (Nat.le_of_ble_eq_true rfl) ?_
  refine mv_aload_n d_TrustDeskModel_nearest_0 rfl rfl ?_
  refine mv_iconst (v := 0) d_TrustDeskModel_nearest_1 (by decide) ?_
  refine mv_put (fs' := [.int 0, .int 0, .int 0, .ref 100, .ref 101, .ref 102, .ref 103, .ref 104, .ref 105, .ref 106, .ref 107, .ref 108, .ref 109, .ref 110, .int 0, .int 0, .int 0, .int 0, .int 0, .int 0, .int 0, .int (-1), .int 0, .int 0, .int 0, .ref 111, .ref 112, .int 0, .ref 113, .ref 114, .ref 115, .int 0, .int 0, .ref 116, .ref 117, .ref 118, .ref 119, .ref 120, .ref 121, .ref 122, .ref 123, .ref 124, .ref 125, .ref 126, .ref 127, .ref 128, .ref 129, .ref 130, .ref 131, .int 0, .ref 132, .int 0, .ref 133, .int 0, .ref 134, .ref 135, .ref 136, .ref 137, .ref 138, .ref 139, .ref 140, .ref 141, .ref 142, .ref 143, .ref 144, .ref 145, .ref 146, .int 0, .long 0, .int 0, .int 0, .ref 147]) d_TrustDeskModel_nearest_2 p_TrustDeskModel_1_13 h_99 (Nat.le_of_ble_eq_true rfl) rfl rfl rfl ?_
  refine mv_aload_n d_TrustDeskModel_nearest_5 rfl rfl ?_
  refine mv_iload_n d_TrustDeskModel_nearest_6 rfl rfl ?_
  refine mv_callV_s (kc' := 0) (ks' := 0) [.int x1] [.int x1, .ref 99] d_TrustDeskModel_nearest_7 lV_TrustDeskModel_492 (mj_up_self _ _ _) rfl (c_TrustDeskModel_isFree_0 (d := d) (x1 := x1) (h_99 := (mj_up_self _ _ _))) rfl (Nat.le_of_ble_eq_true rfl) (Nat.le_of_ble_eq_true rfl) (Nat.le_of_ble_eq_true rfl) rfl ?_
  refine mv_if_ne_f (tgt := 15) d_TrustDeskModel_nearest_10 (by decide) (by decide) ?_
  refine mv_iconst (v := (-1)) d_TrustDeskModel_nearest_13 (by decide) ?_
  exact mv_iret d_TrustDeskModel_nearest_14 rfl (by first | rfl | decide) ⟨rfl, rfl, rfl⟩
abbrev kY_TrustDeskModel_marks : mj_Y := (⟨"TrustDeskModel", "marks", "(III)I"⟩, prog_14_method_91_code, 5, (Option.some Jvm.ClassFile.FieldType.int))
theorem d_TrustDeskModel_marks_0 : decode kY_TrustDeskModel_marks.2.1 0 = .ok (.aload_n 0, 1) := by decide +kernel
theorem d_TrustDeskModel_marks_1 : decode kY_TrustDeskModel_marks.2.1 1 = .ok (.iconst 0, 1) := by decide +kernel
theorem d_TrustDeskModel_marks_2 : decode kY_TrustDeskModel_marks.2.1 2 = .ok (.putfield 1, 3) := by decide +kernel
theorem d_TrustDeskModel_marks_5 : decode kY_TrustDeskModel_marks.2.1 5 = .ok (.aload_n 0, 1) := by decide +kernel
theorem d_TrustDeskModel_marks_6 : decode kY_TrustDeskModel_marks.2.1 6 = .ok (.iload_n 1, 1) := by decide +kernel
theorem d_TrustDeskModel_marks_7 : decode kY_TrustDeskModel_marks.2.1 7 = .ok (.invokevirtual 418, 3) := by decide +kernel
theorem d_TrustDeskModel_marks_10 : decode kY_TrustDeskModel_marks.2.1 10 = .ok (.ifCond .eq 25, 3) := by decide +kernel
theorem d_TrustDeskModel_marks_35 : decode kY_TrustDeskModel_marks.2.1 35 = .ok (.iconst (-1), 1) := by decide +kernel
theorem d_TrustDeskModel_marks_36 : decode kY_TrustDeskModel_marks.2.1 36 = .ok (.ireturn, 1) := by decide +kernel
theorem c_TrustDeskModel_marks_0 {g : mj_G} {l : Launch} {d nx : Nat} {M : mj_M} {x1 : Int32} {x2 : Int32} {x3 : Int32} (h_99 : M 99 = some (.inr (13, [.int 0, .int 0, .int 0, .ref 100, .ref 101, .ref 102, .ref 103, .ref 104, .ref 105, .ref 106, .ref 107, .ref 108, .ref 109, .ref 110, .int 0, .int 0, .int 0, .int 0, .int 0, .int 0, .int 0, .int (-1), .int 0, .int 0, .int 0, .ref 111, .ref 112, .int 0, .ref 113, .ref 114, .ref 115, .int 0, .int 0, .ref 116, .ref 117, .ref 118, .ref 119, .ref 120, .ref 121, .ref 122, .ref 123, .ref 124, .ref 125, .ref 126, .ref 127, .ref 128, .ref 129, .ref 130, .ref 131, .int 0, .ref 132, .int 0, .ref 133, .int 0, .ref 134, .ref 135, .ref 136, .ref 137, .ref 138, .ref 139, .ref 140, .ref 141, .ref 142, .ref 143, .ref 144, .ref 145, .ref 146, .int 0, .long 0, .int 0, .int 0, .ref 147]))) : mj_Met g l kY_TrustDeskModel_marks (d + 1) [.ref 99, .int x1, .int x2, .int x3] M nx 0 0 (mj_E1 (some (.int (-1))) (mj_up M 99 (.inr (13, [.int 0, .int 0, .int 0, .ref 100, .ref 101, .ref 102, .ref 103, .ref 104, .ref 105, .ref 106, .ref 107, .ref 108, .ref 109, .ref 110, .int 0, .int 0, .int 0, .int 0, .int 0, .int 0, .int 0, .int (-1), .int 0, .int 0, .int 0, .ref 111, .ref 112, .int 0, .ref 113, .ref 114, .ref 115, .int 0, .int 0, .ref 116, .ref 117, .ref 118, .ref 119, .ref 120, .ref 121, .ref 122, .ref 123, .ref 124, .ref 125, .ref 126, .ref 127, .ref 128, .ref 129, .ref 130, .ref 131, .int 0, .ref 132, .int 0, .ref 133, .int 0, .ref 134, .ref 135, .ref 136, .ref 137, .ref 138, .ref 139, .ref 140, .ref 141, .ref 142, .ref 143, .ref 144, .ref 145, .ref 146, .int 0, .long 0, .int 0, .int 0, .ref 147]))) nx) := by
  refine mj_enter (by decide) (Nat.le_of_ble_eq_true rfl) ?_
  refine mv_aload_n d_TrustDeskModel_marks_0 rfl rfl ?_
  refine mv_iconst (v := 0) d_TrustDeskModel_marks_1 (by decide) ?_
  refine mv_put (fs' := [.int 0, .int 0, .int 0, .ref 100, .ref 101, .ref 102, .ref 103, .ref 104, .ref 105, .ref 106, .ref 107, .ref 108, .ref 109, .ref 110, .int 0, .int 0, .int 0, .int 0, .int 0, .int 0, .int 0, .int (-1), .int 0, .int 0, .int 0, .ref 111, .ref 112, .int 0, .ref 113, .ref 114, .ref 115, .int 0, .int 0, .ref 116, .ref 117, .ref 118, .ref 119, .ref 120, .ref 121, .ref 122, .ref 123, .ref 124, .ref 125, .ref 126, .ref 127, .ref 128, .ref 129, .ref 130, .ref 131, .int 0, .ref 132, .int 0, .ref 133, .int 0, .ref 134, .ref 135, .ref 136, .ref 137, .ref 138, .ref 139, .ref 140, .ref 141, .ref 142, .ref 143, .ref 144, .ref 145, .ref 146, .int 0, .long 0, .int 0, .int 0, .ref 147]) d_TrustDeskModel_marks_2 p_TrustDeskModel_1_13 h_99 (Nat.le_of_ble_eq_true rfl) rfl rfl rfl ?_
  refine mv_aload_n d_TrustDeskModel_marks_5 rfl rfl ?_
  refine mv_iload_n d_TrustDeskModel_marks_6 rfl rfl ?_
  refine mv_callV_s (kc' := 0) (ks' := 0) [.int x1] [.int x1, .ref 99] d_TrustDeskModel_marks_7 lV_TrustDeskModel_418 (mj_up_self _ _ _) rfl (c_TrustDeskModel_isFund_0 (d := d) (x1 := x1) (h_99 := (mj_up_self _ _ _))) rfl (Nat.le_of_ble_eq_true rfl) (Nat.le_of_ble_eq_true rfl) (Nat.le_of_ble_eq_true rfl) rfl ?_
  refine mv_if_eq_t (tgt := 35) d_TrustDeskModel_marks_10 (by decide) (by decide) ?_
  refine mv_iconst (v := (-1)) d_TrustDeskModel_marks_35 (by decide) ?_
  exact mv_iret d_TrustDeskModel_marks_36 rfl (by first | rfl | decide) ⟨rfl, rfl, rfl⟩
abbrev kY_TrustDeskModel_group : mj_Y := (⟨"TrustDeskModel", "group", "(I)J"⟩, prog_14_method_97_code, 2, (Option.some Jvm.ClassFile.FieldType.long))
theorem d_TrustDeskModel_group_0 : decode kY_TrustDeskModel_group.2.1 0 = .ok (.aload_n 0, 1) := by decide +kernel
theorem d_TrustDeskModel_group_1 : decode kY_TrustDeskModel_group.2.1 1 = .ok (.iconst 0, 1) := by decide +kernel
theorem d_TrustDeskModel_group_2 : decode kY_TrustDeskModel_group.2.1 2 = .ok (.putfield 1, 3) := by decide +kernel
theorem d_TrustDeskModel_group_5 : decode kY_TrustDeskModel_group.2.1 5 = .ok (.aload_n 0, 1) := by decide +kernel
theorem d_TrustDeskModel_group_6 : decode kY_TrustDeskModel_group.2.1 6 = .ok (.iload_n 1, 1) := by decide +kernel
theorem d_TrustDeskModel_group_7 : decode kY_TrustDeskModel_group.2.1 7 = .ok (.invokevirtual 587, 3) := by decide +kernel
abbrev kY_TrustDeskModel_groups : mj_Y := (⟨"TrustDeskModel", "groups", "(I)Z"⟩, prog_14_method_96_code, 2, (Option.some Jvm.ClassFile.FieldType.boolean))
theorem lV_TrustDeskModel_587 : mj_lV "TrustDeskModel" 587 kY_TrustDeskModel_groups 1 := ⟨⟨(mj_in1 (List.mem_of_getElem? (i := 2018) (by decide +kernel)) rfl), (mj_in1 (List.mem_of_getElem? (i := 10) (by decide +kernel)) rfl), (mj_in1 (List.mem_of_getElem? (i := 2021) (by decide +kernel)) rfl), by decide, rfl, by decide⟩, (mj_in1 (List.mem_of_getElem? (i := 2020) (by decide +kernel)) rfl), (mj_in (List.mem_append_left _ (List.mem_of_getElem? (i := 138) (by decide +kernel))) rfl)⟩
theorem d_TrustDeskModel_groups_0 : decode kY_TrustDeskModel_groups.2.1 0 = .ok (.aload_n 0, 1) := by decide +kernel
theorem d_TrustDeskModel_groups_1 : decode kY_TrustDeskModel_groups.2.1 1 = .ok (.iload_n 1, 1) := by decide +kernel
theorem d_TrustDeskModel_groups_2 : decode kY_TrustDeskModel_groups.2.1 2 = .ok (.invokevirtual 581, 3) := by decide +kernel
abbrev kY_TrustDeskModel_areAsked : mj_Y := (⟨"TrustDeskModel", "areAsked", "(I)Z"⟩, prog_14_method_92_code, 4, (Option.some Jvm.ClassFile.FieldType.boolean))
theorem lV_TrustDeskModel_581 : mj_lV "TrustDeskModel" 581 kY_TrustDeskModel_areAsked 1 := ⟨⟨(mj_in1 (List.mem_of_getElem? (i := 2022) (by decide +kernel)) rfl), (mj_in1 (List.mem_of_getElem? (i := 10) (by decide +kernel)) rfl), (mj_in1 (List.mem_of_getElem? (i := 2025) (by decide +kernel)) rfl), by decide, rfl, by decide⟩, (mj_in1 (List.mem_of_getElem? (i := 2024) (by decide +kernel)) rfl), (mj_in (List.mem_append_left _ (List.mem_of_getElem? (i := 139) (by decide +kernel))) rfl)⟩
theorem d_TrustDeskModel_areAsked_0 : decode kY_TrustDeskModel_areAsked.2.1 0 = .ok (.iconst 0, 1) := by decide +kernel
theorem d_TrustDeskModel_areAsked_1 : decode kY_TrustDeskModel_areAsked.2.1 1 = .ok (.istore_n 2, 1) := by decide +kernel
theorem d_TrustDeskModel_areAsked_2 : decode kY_TrustDeskModel_areAsked.2.1 2 = .ok (.iconst 0, 1) := by decide +kernel
theorem d_TrustDeskModel_areAsked_3 : decode kY_TrustDeskModel_areAsked.2.1 3 = .ok (.istore_n 3, 1) := by decide +kernel
theorem d_TrustDeskModel_areAsked_4 : decode kY_TrustDeskModel_areAsked.2.1 4 = .ok (.iload_n 3, 1) := by decide +kernel
theorem d_TrustDeskModel_areAsked_5 : decode kY_TrustDeskModel_areAsked.2.1 5 = .ok (.bipush 12, 2) := by decide +kernel
theorem d_TrustDeskModel_areAsked_7 : decode kY_TrustDeskModel_areAsked.2.1 7 = .ok (.if_icmp .ge 33, 3) := by decide +kernel
theorem d_TrustDeskModel_areAsked_10 : decode kY_TrustDeskModel_areAsked.2.1 10 = .ok (.iload_n 1, 1) := by decide +kernel
theorem d_TrustDeskModel_areAsked_11 : decode kY_TrustDeskModel_areAsked.2.1 11 = .ok (.iload_n 3, 1) := by decide +kernel
theorem d_TrustDeskModel_areAsked_12 : decode kY_TrustDeskModel_areAsked.2.1 12 = .ok (.ishr, 1) := by decide +kernel
theorem d_TrustDeskModel_areAsked_13 : decode kY_TrustDeskModel_areAsked.2.1 13 = .ok (.iconst 1, 1) := by decide +kernel
theorem d_TrustDeskModel_areAsked_14 : decode kY_TrustDeskModel_areAsked.2.1 14 = .ok (.iand, 1) := by decide +kernel
theorem d_TrustDeskModel_areAsked_15 : decode kY_TrustDeskModel_areAsked.2.1 15 = .ok (.ifCond .ne 6, 3) := by decide +kernel
theorem d_TrustDeskModel_areAsked_21 : decode kY_TrustDeskModel_areAsked.2.1 21 = .ok (.aload_n 0, 1) := by decide +kernel
theorem d_TrustDeskModel_areAsked_22 : decode kY_TrustDeskModel_areAsked.2.1 22 = .ok (.iload_n 3, 1) := by decide +kernel
theorem d_TrustDeskModel_areAsked_23 : decode kY_TrustDeskModel_areAsked.2.1 23 = .ok (.invokevirtual 492, 3) := by decide +kernel
theorem c_TrustDeskModel_isFund_1 {g : mj_G} {l : Launch} {d nx : Nat} {M : mj_M} (h_99 : M 99 = some (.inr (13, [.int 0, .int 0, .int 0, .ref 100, .ref 101, .ref 102, .ref 103, .ref 104, .ref 105, .ref 106, .ref 107, .ref 108, .ref 109, .ref 110, .int 0, .int 0, .int 0, .int 0, .int 0, .int 0, .int 0, .int (-1), .int 0, .int 0, .int 0, .ref 111, .ref 112, .int 0, .ref 113, .ref 114, .ref 115, .int 0, .int 0, .ref 116, .ref 117, .ref 118, .ref 119, .ref 120, .ref 121, .ref 122, .ref 123, .ref 124, .ref 125, .ref 126, .ref 127, .ref 128, .ref 129, .ref 130, .ref 131, .int 0, .ref 132, .int 0, .ref 133, .int 0, .ref 134, .ref 135, .ref 136, .ref 137, .ref 138, .ref 139, .ref 140, .ref 141, .ref 142, .ref 143, .ref 144, .ref 145, .ref 146, .int 0, .long 0, .int 0, .int 0, .ref 147]))) : mj_Met g l kY_TrustDeskModel_isFund d [.ref 99, .int 0] M nx 0 0 (mj_E1 (some (.int 0)) M nx) := by
  refine mj_enter (by decide) (Nat.le_of_ble_eq_true rfl) ?_
  refine mv_iload_n d_TrustDeskModel_isFund_0 rfl rfl ?_
  refine mv_if_lt_f (tgt := 16) d_TrustDeskModel_isFund_1 (by decide) (by decide) ?_
  refine mv_iload_n d_TrustDeskModel_isFund_4 rfl rfl ?_
  refine mv_aload_n d_TrustDeskModel_isFund_5 rfl rfl ?_
  refine mv_get d_TrustDeskModel_isFund_6 f_TrustDeskModel_415_13 h_99 rfl ?_
  refine mv_icmp_ge_t (tgt := 16) d_TrustDeskModel_isFund_9 (by decide) (by decide) ?_
  refine mv_iconst (v := 0) d_TrustDeskModel_isFund_16 (by decide) ?_
  exact mv_iret d_TrustDeskModel_isFund_17 rfl (by first | rfl | decide) ⟨rfl, rfl, rfl⟩
theorem c_TrustDeskModel_isFree_1 {g : mj_G} {l : Launch} {d nx : Nat} {M : mj_M} (h_99 : M 99 = some (.inr (13, [.int 0, .int 0, .int 0, .ref 100, .ref 101, .ref 102, .ref 103, .ref 104, .ref 105, .ref 106, .ref 107, .ref 108, .ref 109, .ref 110, .int 0, .int 0, .int 0, .int 0, .int 0, .int 0, .int 0, .int (-1), .int 0, .int 0, .int 0, .ref 111, .ref 112, .int 0, .ref 113, .ref 114, .ref 115, .int 0, .int 0, .ref 116, .ref 117, .ref 118, .ref 119, .ref 120, .ref 121, .ref 122, .ref 123, .ref 124, .ref 125, .ref 126, .ref 127, .ref 128, .ref 129, .ref 130, .ref 131, .int 0, .ref 132, .int 0, .ref 133, .int 0, .ref 134, .ref 135, .ref 136, .ref 137, .ref 138, .ref 139, .ref 140, .ref 141, .ref 142, .ref 143, .ref 144, .ref 145, .ref 146, .int 0, .long 0, .int 0, .int 0, .ref 147]))) : mj_Met g l kY_TrustDeskModel_isFree (d + 1) [.ref 99, .int 0] M nx 0 0 (mj_E1 (some (.int 0)) M nx) := by
  refine mj_enter (by decide) (Nat.le_of_ble_eq_true rfl) ?_
  refine mv_aload_n d_TrustDeskModel_isFree_0 rfl rfl ?_
  refine mv_iload_n d_TrustDeskModel_isFree_1 rfl rfl ?_
  refine mv_callV_s (kc' := 0) (ks' := 0) [.int 0] [.int 0, .ref 99] d_TrustDeskModel_isFree_2 lV_TrustDeskModel_418 h_99 rfl (c_TrustDeskModel_isFund_1 (d := d) (h_99 := h_99)) rfl (Nat.le_of_ble_eq_true rfl) (Nat.le_of_ble_eq_true rfl) (Nat.le_of_ble_eq_true rfl) rfl ?_
  refine mv_if_eq_t (tgt := 22) d_TrustDeskModel_isFree_5 (by decide) (by decide) ?_
  refine mv_iconst (v := 0) d_TrustDeskModel_isFree_22 (by decide) ?_
  exact mv_iret d_TrustDeskModel_isFree_23 rfl (by first | rfl | decide) ⟨rfl, rfl, rfl⟩
theorem d_TrustDeskModel_areAsked_26 : decode kY_TrustDeskModel_areAsked.2.1 26 = .ok (.ifCond .ne 5, 3) := by decide +kernel
theorem d_TrustDeskModel_areAsked_29 : decode kY_TrustDeskModel_areAsked.2.1 29 = .ok (.iconst 0, 1) := by decide +kernel
theorem d_TrustDeskModel_areAsked_30 : decode kY_TrustDeskModel_areAsked.2.1 30 = .ok (.ireturn, 1) := by decide +kernel
theorem d_TrustDeskModel_areAsked_18 : decode kY_TrustDeskModel_areAsked.2.1 18 = .ok (.goto 16, 3) := by decide +kernel
theorem d_TrustDeskModel_areAsked_34 : decode kY_TrustDeskModel_areAsked.2.1 34 = .ok (.iinc 3 1, 3) := by decide +kernel
theorem d_TrustDeskModel_areAsked_37 : decode kY_TrustDeskModel_areAsked.2.1 37 = .ok (.goto (-33), 3) := by decide +kernel
theorem c_TrustDeskModel_isFund_2 {g : mj_G} {l : Launch} {d nx : Nat} {M : mj_M} (h_99 : M 99 = some (.inr (13, [.int 0, .int 0, .int 0, .ref 100, .ref 101, .ref 102, .ref 103, .ref 104, .ref 105, .ref 106, .ref 107, .ref 108, .ref 109, .ref 110, .int 0, .int 0, .int 0, .int 0, .int 0, .int 0, .int 0, .int (-1), .int 0, .int 0, .int 0, .ref 111, .ref 112, .int 0, .ref 113, .ref 114, .ref 115, .int 0, .int 0, .ref 116, .ref 117, .ref 118, .ref 119, .ref 120, .ref 121, .ref 122, .ref 123, .ref 124, .ref 125, .ref 126, .ref 127, .ref 128, .ref 129, .ref 130, .ref 131, .int 0, .ref 132, .int 0, .ref 133, .int 0, .ref 134, .ref 135, .ref 136, .ref 137, .ref 138, .ref 139, .ref 140, .ref 141, .ref 142, .ref 143, .ref 144, .ref 145, .ref 146, .int 0, .long 0, .int 0, .int 0, .ref 147]))) : mj_Met g l kY_TrustDeskModel_isFund d [.ref 99, .int 1] M nx 0 0 (mj_E1 (some (.int 0)) M nx) := by
  refine mj_enter (by decide) (Nat.le_of_ble_eq_true rfl) ?_
  refine mv_iload_n d_TrustDeskModel_isFund_0 rfl rfl ?_
  refine mv_if_lt_f (tgt := 16) d_TrustDeskModel_isFund_1 (by decide) (by decide) ?_
  refine mv_iload_n d_TrustDeskModel_isFund_4 rfl rfl ?_
  refine mv_aload_n d_TrustDeskModel_isFund_5 rfl rfl ?_
  refine mv_get d_TrustDeskModel_isFund_6 f_TrustDeskModel_415_13 h_99 rfl ?_
  refine mv_icmp_ge_t (tgt := 16) d_TrustDeskModel_isFund_9 (by decide) (by decide) ?_
  refine mv_iconst (v := 0) d_TrustDeskModel_isFund_16 (by decide) ?_
  exact mv_iret d_TrustDeskModel_isFund_17 rfl (by first | rfl | decide) ⟨rfl, rfl, rfl⟩
theorem c_TrustDeskModel_isFree_2 {g : mj_G} {l : Launch} {d nx : Nat} {M : mj_M} (h_99 : M 99 = some (.inr (13, [.int 0, .int 0, .int 0, .ref 100, .ref 101, .ref 102, .ref 103, .ref 104, .ref 105, .ref 106, .ref 107, .ref 108, .ref 109, .ref 110, .int 0, .int 0, .int 0, .int 0, .int 0, .int 0, .int 0, .int (-1), .int 0, .int 0, .int 0, .ref 111, .ref 112, .int 0, .ref 113, .ref 114, .ref 115, .int 0, .int 0, .ref 116, .ref 117, .ref 118, .ref 119, .ref 120, .ref 121, .ref 122, .ref 123, .ref 124, .ref 125, .ref 126, .ref 127, .ref 128, .ref 129, .ref 130, .ref 131, .int 0, .ref 132, .int 0, .ref 133, .int 0, .ref 134, .ref 135, .ref 136, .ref 137, .ref 138, .ref 139, .ref 140, .ref 141, .ref 142, .ref 143, .ref 144, .ref 145, .ref 146, .int 0, .long 0, .int 0, .int 0, .ref 147]))) : mj_Met g l kY_TrustDeskModel_isFree (d + 1) [.ref 99, .int 1] M nx 0 0 (mj_E1 (some (.int 0)) M nx) := by
  refine mj_enter (by decide) (Nat.le_of_ble_eq_true rfl) ?_
  refine mv_aload_n d_TrustDeskModel_isFree_0 rfl rfl ?_
  refine mv_iload_n d_TrustDeskModel_isFree_1 rfl rfl ?_
  refine mv_callV_s (kc' := 0) (ks' := 0) [.int 1] [.int 1, .ref 99] d_TrustDeskModel_isFree_2 lV_TrustDeskModel_418 h_99 rfl (c_TrustDeskModel_isFund_2 (d := d) (h_99 := h_99)) rfl (Nat.le_of_ble_eq_true rfl) (Nat.le_of_ble_eq_true rfl) (Nat.le_of_ble_eq_true rfl) rfl ?_
  refine mv_if_eq_t (tgt := 22) d_TrustDeskModel_isFree_5 (by decide) (by decide) ?_
  refine mv_iconst (v := 0) d_TrustDeskModel_isFree_22 (by decide) ?_
  exact mv_iret d_TrustDeskModel_isFree_23 rfl (by first | rfl | decide) ⟨rfl, rfl, rfl⟩
theorem c_TrustDeskModel_isFund_3 {g : mj_G} {l : Launch} {d nx : Nat} {M : mj_M} (h_99 : M 99 = some (.inr (13, [.int 0, .int 0, .int 0, .ref 100, .ref 101, .ref 102, .ref 103, .ref 104, .ref 105, .ref 106, .ref 107, .ref 108, .ref 109, .ref 110, .int 0, .int 0, .int 0, .int 0, .int 0, .int 0, .int 0, .int (-1), .int 0, .int 0, .int 0, .ref 111, .ref 112, .int 0, .ref 113, .ref 114, .ref 115, .int 0, .int 0, .ref 116, .ref 117, .ref 118, .ref 119, .ref 120, .ref 121, .ref 122, .ref 123, .ref 124, .ref 125, .ref 126, .ref 127, .ref 128, .ref 129, .ref 130, .ref 131, .int 0, .ref 132, .int 0, .ref 133, .int 0, .ref 134, .ref 135, .ref 136, .ref 137, .ref 138, .ref 139, .ref 140, .ref 141, .ref 142, .ref 143, .ref 144, .ref 145, .ref 146, .int 0, .long 0, .int 0, .int 0, .ref 147]))) : mj_Met g l kY_TrustDeskModel_isFund d [.ref 99, .int 2] M nx 0 0 (mj_E1 (some (.int 0)) M nx) := by
  refine mj_enter (by decide) (Nat.le_of_ble_eq_true rfl) ?_
  refine mv_iload_n d_TrustDeskModel_isFund_0 rfl rfl ?_
  refine mv_if_lt_f (tgt := 16) d_TrustDeskModel_isFund_1 (by decide) (by decide) ?_
  refine mv_iload_n d_TrustDeskModel_isFund_4 rfl rfl ?_
  refine mv_aload_n d_TrustDeskModel_isFund_5 rfl rfl ?_
  refine mv_get d_TrustDeskModel_isFund_6 f_TrustDeskModel_415_13 h_99 rfl ?_
  refine mv_icmp_ge_t (tgt := 16) d_TrustDeskModel_isFund_9 (by decide) (by decide) ?_
  refine mv_iconst (v := 0) d_TrustDeskModel_isFund_16 (by decide) ?_
  exact mv_iret d_TrustDeskModel_isFund_17 rfl (by first | rfl | decide) ⟨rfl, rfl, rfl⟩
theorem c_TrustDeskModel_isFree_3 {g : mj_G} {l : Launch} {d nx : Nat} {M : mj_M} (h_99 : M 99 = some (.inr (13, [.int 0, .int 0, .int 0, .ref 100, .ref 101, .ref 102, .ref 103, .ref 104, .ref 105, .ref 106, .ref 107, .ref 108, .ref 109, .ref 110, .int 0, .int 0, .int 0, .int 0, .int 0, .int 0, .int 0, .int (-1), .int 0, .int 0, .int 0, .ref 111, .ref 112, .int 0, .ref 113, .ref 114, .ref 115, .int 0, .int 0, .ref 116, .ref 117, .ref 118, .ref 119, .ref 120, .ref 121, .ref 122, .ref 123, .ref 124, .ref 125, .ref 126, .ref 127, .ref 128, .ref 129, .ref 130, .ref 131, .int 0, .ref 132, .int 0, .ref 133, .int 0, .ref 134, .ref 135, .ref 136, .ref 137, .ref 138, .ref 139, .ref 140, .ref 141, .ref 142, .ref 143, .ref 144, .ref 145, .ref 146, .int 0, .long 0, .int 0, .int 0, .ref 147]))) : mj_Met g l kY_TrustDeskModel_isFree (d + 1) [.ref 99, .int 2] M nx 0 0 (mj_E1 (some (.int 0)) M nx) := by
  refine mj_enter (by decide) (Nat.le_of_ble_eq_true rfl) ?_
  refine mv_aload_n d_TrustDeskModel_isFree_0 rfl rfl ?_
  refine mv_iload_n d_TrustDeskModel_isFree_1 rfl rfl ?_
  refine mv_callV_s (kc' := 0) (ks' := 0) [.int 2] [.int 2, .ref 99] d_TrustDeskModel_isFree_2 lV_TrustDeskModel_418 h_99 rfl (c_TrustDeskModel_isFund_3 (d := d) (h_99 := h_99)) rfl (Nat.le_of_ble_eq_true rfl) (Nat.le_of_ble_eq_true rfl) (Nat.le_of_ble_eq_true rfl) rfl ?_
  refine mv_if_eq_t (tgt := 22) d_TrustDeskModel_isFree_5 (by decide) (by decide) ?_
  refine mv_iconst (v := 0) d_TrustDeskModel_isFree_22 (by decide) ?_
  exact mv_iret d_TrustDeskModel_isFree_23 rfl (by first | rfl | decide) ⟨rfl, rfl, rfl⟩
theorem c_TrustDeskModel_isFund_4 {g : mj_G} {l : Launch} {d nx : Nat} {M : mj_M} (h_99 : M 99 = some (.inr (13, [.int 0, .int 0, .int 0, .ref 100, .ref 101, .ref 102, .ref 103, .ref 104, .ref 105, .ref 106, .ref 107, .ref 108, .ref 109, .ref 110, .int 0, .int 0, .int 0, .int 0, .int 0, .int 0, .int 0, .int (-1), .int 0, .int 0, .int 0, .ref 111, .ref 112, .int 0, .ref 113, .ref 114, .ref 115, .int 0, .int 0, .ref 116, .ref 117, .ref 118, .ref 119, .ref 120, .ref 121, .ref 122, .ref 123, .ref 124, .ref 125, .ref 126, .ref 127, .ref 128, .ref 129, .ref 130, .ref 131, .int 0, .ref 132, .int 0, .ref 133, .int 0, .ref 134, .ref 135, .ref 136, .ref 137, .ref 138, .ref 139, .ref 140, .ref 141, .ref 142, .ref 143, .ref 144, .ref 145, .ref 146, .int 0, .long 0, .int 0, .int 0, .ref 147]))) : mj_Met g l kY_TrustDeskModel_isFund d [.ref 99, .int 3] M nx 0 0 (mj_E1 (some (.int 0)) M nx) := by
  refine mj_enter (by decide) (Nat.le_of_ble_eq_true rfl) ?_
  refine mv_iload_n d_TrustDeskModel_isFund_0 rfl rfl ?_
  refine mv_if_lt_f (tgt := 16) d_TrustDeskModel_isFund_1 (by decide) (by decide) ?_
  refine mv_iload_n d_TrustDeskModel_isFund_4 rfl rfl ?_
  refine mv_aload_n d_TrustDeskModel_isFund_5 rfl rfl ?_
  refine mv_get d_TrustDeskModel_isFund_6 f_TrustDeskModel_415_13 h_99 rfl ?_
  refine mv_icmp_ge_t (tgt := 16) d_TrustDeskModel_isFund_9 (by decide) (by decide) ?_
  refine mv_iconst (v := 0) d_TrustDeskModel_isFund_16 (by decide) ?_
  exact mv_iret d_TrustDeskModel_isFund_17 rfl (by first | rfl | decide) ⟨rfl, rfl, rfl⟩
theorem c_TrustDeskModel_isFree_4 {g : mj_G} {l : Launch} {d nx : Nat} {M : mj_M} (h_99 : M 99 = some (.inr (13, [.int 0, .int 0, .int 0, .ref 100, .ref 101, .ref 102, .ref 103, .ref 104, .ref 105, .ref 106, .ref 107, .ref 108, .ref 109, .ref 110, .int 0, .int 0, .int 0, .int 0, .int 0, .int 0, .int 0, .int (-1), .int 0, .int 0, .int 0, .ref 111, .ref 112, .int 0, .ref 113, .ref 114, .ref 115, .int 0, .int 0, .ref 116, .ref 117, .ref 118, .ref 119, .ref 120, .ref 121, .ref 122, .ref 123, .ref 124, .ref 125, .ref 126, .ref 127, .ref 128, .ref 129, .ref 130, .ref 131, .int 0, .ref 132, .int 0, .ref 133, .int 0, .ref 134, .ref 135, .ref 136, .ref 137, .ref 138, .ref 139, .ref 140, .ref 141, .ref 142, .ref 143, .ref 144, .ref 145, .ref 146, .int 0, .long 0, .int 0, .int 0, .ref 147]))) : mj_Met g l kY_TrustDeskModel_isFree (d + 1) [.ref 99, .int 3] M nx 0 0 (mj_E1 (some (.int 0)) M nx) := by
  refine mj_enter (by decide) (Nat.le_of_ble_eq_true rfl) ?_
  refine mv_aload_n d_TrustDeskModel_isFree_0 rfl rfl ?_
  refine mv_iload_n d_TrustDeskModel_isFree_1 rfl rfl ?_
  refine mv_callV_s (kc' := 0) (ks' := 0) [.int 3] [.int 3, .ref 99] d_TrustDeskModel_isFree_2 lV_TrustDeskModel_418 h_99 rfl (c_TrustDeskModel_isFund_4 (d := d) (h_99 := h_99)) rfl (Nat.le_of_ble_eq_true rfl) (Nat.le_of_ble_eq_true rfl) (Nat.le_of_ble_eq_true rfl) rfl ?_
  refine mv_if_eq_t (tgt := 22) d_TrustDeskModel_isFree_5 (by decide) (by decide) ?_
  refine mv_iconst (v := 0) d_TrustDeskModel_isFree_22 (by decide) ?_
  exact mv_iret d_TrustDeskModel_isFree_23 rfl (by first | rfl | decide) ⟨rfl, rfl, rfl⟩
theorem c_TrustDeskModel_isFund_5 {g : mj_G} {l : Launch} {d nx : Nat} {M : mj_M} (h_99 : M 99 = some (.inr (13, [.int 0, .int 0, .int 0, .ref 100, .ref 101, .ref 102, .ref 103, .ref 104, .ref 105, .ref 106, .ref 107, .ref 108, .ref 109, .ref 110, .int 0, .int 0, .int 0, .int 0, .int 0, .int 0, .int 0, .int (-1), .int 0, .int 0, .int 0, .ref 111, .ref 112, .int 0, .ref 113, .ref 114, .ref 115, .int 0, .int 0, .ref 116, .ref 117, .ref 118, .ref 119, .ref 120, .ref 121, .ref 122, .ref 123, .ref 124, .ref 125, .ref 126, .ref 127, .ref 128, .ref 129, .ref 130, .ref 131, .int 0, .ref 132, .int 0, .ref 133, .int 0, .ref 134, .ref 135, .ref 136, .ref 137, .ref 138, .ref 139, .ref 140, .ref 141, .ref 142, .ref 143, .ref 144, .ref 145, .ref 146, .int 0, .long 0, .int 0, .int 0, .ref 147]))) : mj_Met g l kY_TrustDeskModel_isFund d [.ref 99, .int 4] M nx 0 0 (mj_E1 (some (.int 0)) M nx) := by
  refine mj_enter (by decide) (Nat.le_of_ble_eq_true rfl) ?_
  refine mv_iload_n d_TrustDeskModel_isFund_0 rfl rfl ?_
  refine mv_if_lt_f (tgt := 16) d_TrustDeskModel_isFund_1 (by decide) (by decide) ?_
  refine mv_iload_n d_TrustDeskModel_isFund_4 rfl rfl ?_
  refine mv_aload_n d_TrustDeskModel_isFund_5 rfl rfl ?_
  refine mv_get d_TrustDeskModel_isFund_6 f_TrustDeskModel_415_13 h_99 rfl ?_
  refine mv_icmp_ge_t (tgt := 16) d_TrustDeskModel_isFund_9 (by decide) (by decide) ?_
  refine mv_iconst (v := 0) d_TrustDeskModel_isFund_16 (by decide) ?_
  exact mv_iret d_TrustDeskModel_isFund_17 rfl (by first | rfl | decide) ⟨rfl, rfl, rfl⟩
theorem c_TrustDeskModel_isFree_5 {g : mj_G} {l : Launch} {d nx : Nat} {M : mj_M} (h_99 : M 99 = some (.inr (13, [.int 0, .int 0, .int 0, .ref 100, .ref 101, .ref 102, .ref 103, .ref 104, .ref 105, .ref 106, .ref 107, .ref 108, .ref 109, .ref 110, .int 0, .int 0, .int 0, .int 0, .int 0, .int 0, .int 0, .int (-1), .int 0, .int 0, .int 0, .ref 111, .ref 112, .int 0, .ref 113, .ref 114, .ref 115, .int 0, .int 0, .ref 116, .ref 117, .ref 118, .ref 119, .ref 120, .ref 121, .ref 122, .ref 123, .ref 124, .ref 125, .ref 126, .ref 127, .ref 128, .ref 129, .ref 130, .ref 131, .int 0, .ref 132, .int 0, .ref 133, .int 0, .ref 134, .ref 135, .ref 136, .ref 137, .ref 138, .ref 139, .ref 140, .ref 141, .ref 142, .ref 143, .ref 144, .ref 145, .ref 146, .int 0, .long 0, .int 0, .int 0, .ref 147]))) : mj_Met g l kY_TrustDeskModel_isFree (d + 1) [.ref 99, .int 4] M nx 0 0 (mj_E1 (some (.int 0)) M nx) := by
  refine mj_enter (by decide) (Nat.le_of_ble_eq_true rfl) ?_
  refine mv_aload_n d_TrustDeskModel_isFree_0 rfl rfl ?_
  refine mv_iload_n d_TrustDeskModel_isFree_1 rfl rfl ?_
  refine mv_callV_s (kc' := 0) (ks' := 0) [.int 4] [.int 4, .ref 99] d_TrustDeskModel_isFree_2 lV_TrustDeskModel_418 h_99 rfl (c_TrustDeskModel_isFund_5 (d := d) (h_99 := h_99)) rfl (Nat.le_of_ble_eq_true rfl) (Nat.le_of_ble_eq_true rfl) (Nat.le_of_ble_eq_true rfl) rfl ?_
  refine mv_if_eq_t (tgt := 22) d_TrustDeskModel_isFree_5 (by decide) (by decide) ?_
  refine mv_iconst (v := 0) d_TrustDeskModel_isFree_22 (by decide) ?_
  exact mv_iret d_TrustDeskModel_isFree_23 rfl (by first | rfl | decide) ⟨rfl, rfl, rfl⟩
theorem c_TrustDeskModel_isFund_6 {g : mj_G} {l : Launch} {d nx : Nat} {M : mj_M} (h_99 : M 99 = some (.inr (13, [.int 0, .int 0, .int 0, .ref 100, .ref 101, .ref 102, .ref 103, .ref 104, .ref 105, .ref 106, .ref 107, .ref 108, .ref 109, .ref 110, .int 0, .int 0, .int 0, .int 0, .int 0, .int 0, .int 0, .int (-1), .int 0, .int 0, .int 0, .ref 111, .ref 112, .int 0, .ref 113, .ref 114, .ref 115, .int 0, .int 0, .ref 116, .ref 117, .ref 118, .ref 119, .ref 120, .ref 121, .ref 122, .ref 123, .ref 124, .ref 125, .ref 126, .ref 127, .ref 128, .ref 129, .ref 130, .ref 131, .int 0, .ref 132, .int 0, .ref 133, .int 0, .ref 134, .ref 135, .ref 136, .ref 137, .ref 138, .ref 139, .ref 140, .ref 141, .ref 142, .ref 143, .ref 144, .ref 145, .ref 146, .int 0, .long 0, .int 0, .int 0, .ref 147]))) : mj_Met g l kY_TrustDeskModel_isFund d [.ref 99, .int 5] M nx 0 0 (mj_E1 (some (.int 0)) M nx) := by
  refine mj_enter (by decide) (Nat.le_of_ble_eq_true rfl) ?_
  refine mv_iload_n d_TrustDeskModel_isFund_0 rfl rfl ?_
  refine mv_if_lt_f (tgt := 16) d_TrustDeskModel_isFund_1 (by decide) (by decide) ?_
  refine mv_iload_n d_TrustDeskModel_isFund_4 rfl rfl ?_
  refine mv_aload_n d_TrustDeskModel_isFund_5 rfl rfl ?_
  refine mv_get d_TrustDeskModel_isFund_6 f_TrustDeskModel_415_13 h_99 rfl ?_
  refine mv_icmp_ge_t (tgt := 16) d_TrustDeskModel_isFund_9 (by decide) (by decide) ?_
  refine mv_iconst (v := 0) d_TrustDeskModel_isFund_16 (by decide) ?_
  exact mv_iret d_TrustDeskModel_isFund_17 rfl (by first | rfl | decide) ⟨rfl, rfl, rfl⟩
theorem c_TrustDeskModel_isFree_6 {g : mj_G} {l : Launch} {d nx : Nat} {M : mj_M} (h_99 : M 99 = some (.inr (13, [.int 0, .int 0, .int 0, .ref 100, .ref 101, .ref 102, .ref 103, .ref 104, .ref 105, .ref 106, .ref 107, .ref 108, .ref 109, .ref 110, .int 0, .int 0, .int 0, .int 0, .int 0, .int 0, .int 0, .int (-1), .int 0, .int 0, .int 0, .ref 111, .ref 112, .int 0, .ref 113, .ref 114, .ref 115, .int 0, .int 0, .ref 116, .ref 117, .ref 118, .ref 119, .ref 120, .ref 121, .ref 122, .ref 123, .ref 124, .ref 125, .ref 126, .ref 127, .ref 128, .ref 129, .ref 130, .ref 131, .int 0, .ref 132, .int 0, .ref 133, .int 0, .ref 134, .ref 135, .ref 136, .ref 137, .ref 138, .ref 139, .ref 140, .ref 141, .ref 142, .ref 143, .ref 144, .ref 145, .ref 146, .int 0, .long 0, .int 0, .int 0, .ref 147]))) : mj_Met g l kY_TrustDeskModel_isFree (d + 1) [.ref 99, .int 5] M nx 0 0 (mj_E1 (some (.int 0)) M nx) := by
  refine mj_enter (by decide) (Nat.le_of_ble_eq_true rfl) ?_
  refine mv_aload_n d_TrustDeskModel_isFree_0 rfl rfl ?_
  refine mv_iload_n d_TrustDeskModel_isFree_1 rfl rfl ?_
  refine mv_callV_s (kc' := 0) (ks' := 0) [.int 5] [.int 5, .ref 99] d_TrustDeskModel_isFree_2 lV_TrustDeskModel_418 h_99 rfl (c_TrustDeskModel_isFund_6 (d := d) (h_99 := h_99)) rfl (Nat.le_of_ble_eq_true rfl) (Nat.le_of_ble_eq_true rfl) (Nat.le_of_ble_eq_true rfl) rfl ?_
  refine mv_if_eq_t (tgt := 22) d_TrustDeskModel_isFree_5 (by decide) (by decide) ?_
  refine mv_iconst (v := 0) d_TrustDeskModel_isFree_22 (by decide) ?_
  exact mv_iret d_TrustDeskModel_isFree_23 rfl (by first | rfl | decide) ⟨rfl, rfl, rfl⟩
theorem c_TrustDeskModel_isFund_7 {g : mj_G} {l : Launch} {d nx : Nat} {M : mj_M} (h_99 : M 99 = some (.inr (13, [.int 0, .int 0, .int 0, .ref 100, .ref 101, .ref 102, .ref 103, .ref 104, .ref 105, .ref 106, .ref 107, .ref 108, .ref 109, .ref 110, .int 0, .int 0, .int 0, .int 0, .int 0, .int 0, .int 0, .int (-1), .int 0, .int 0, .int 0, .ref 111, .ref 112, .int 0, .ref 113, .ref 114, .ref 115, .int 0, .int 0, .ref 116, .ref 117, .ref 118, .ref 119, .ref 120, .ref 121, .ref 122, .ref 123, .ref 124, .ref 125, .ref 126, .ref 127, .ref 128, .ref 129, .ref 130, .ref 131, .int 0, .ref 132, .int 0, .ref 133, .int 0, .ref 134, .ref 135, .ref 136, .ref 137, .ref 138, .ref 139, .ref 140, .ref 141, .ref 142, .ref 143, .ref 144, .ref 145, .ref 146, .int 0, .long 0, .int 0, .int 0, .ref 147]))) : mj_Met g l kY_TrustDeskModel_isFund d [.ref 99, .int 6] M nx 0 0 (mj_E1 (some (.int 0)) M nx) := by
  refine mj_enter (by decide) (Nat.le_of_ble_eq_true rfl) ?_
  refine mv_iload_n d_TrustDeskModel_isFund_0 rfl rfl ?_
  refine mv_if_lt_f (tgt := 16) d_TrustDeskModel_isFund_1 (by decide) (by decide) ?_
  refine mv_iload_n d_TrustDeskModel_isFund_4 rfl rfl ?_
  refine mv_aload_n d_TrustDeskModel_isFund_5 rfl rfl ?_
  refine mv_get d_TrustDeskModel_isFund_6 f_TrustDeskModel_415_13 h_99 rfl ?_
  refine mv_icmp_ge_t (tgt := 16) d_TrustDeskModel_isFund_9 (by decide) (by decide) ?_
  refine mv_iconst (v := 0) d_TrustDeskModel_isFund_16 (by decide) ?_
  exact mv_iret d_TrustDeskModel_isFund_17 rfl (by first | rfl | decide) ⟨rfl, rfl, rfl⟩
theorem c_TrustDeskModel_isFree_7 {g : mj_G} {l : Launch} {d nx : Nat} {M : mj_M} (h_99 : M 99 = some (.inr (13, [.int 0, .int 0, .int 0, .ref 100, .ref 101, .ref 102, .ref 103, .ref 104, .ref 105, .ref 106, .ref 107, .ref 108, .ref 109, .ref 110, .int 0, .int 0, .int 0, .int 0, .int 0, .int 0, .int 0, .int (-1), .int 0, .int 0, .int 0, .ref 111, .ref 112, .int 0, .ref 113, .ref 114, .ref 115, .int 0, .int 0, .ref 116, .ref 117, .ref 118, .ref 119, .ref 120, .ref 121, .ref 122, .ref 123, .ref 124, .ref 125, .ref 126, .ref 127, .ref 128, .ref 129, .ref 130, .ref 131, .int 0, .ref 132, .int 0, .ref 133, .int 0, .ref 134, .ref 135, .ref 136, .ref 137, .ref 138, .ref 139, .ref 140, .ref 141, .ref 142, .ref 143, .ref 144, .ref 145, .ref 146, .int 0, .long 0, .int 0, .int 0, .ref 147]))) : mj_Met g l kY_TrustDeskModel_isFree (d + 1) [.ref 99, .int 6] M nx 0 0 (mj_E1 (some (.int 0)) M nx) := by
  refine mj_enter (by decide) (Nat.le_of_ble_eq_true rfl) ?_
  refine mv_aload_n d_TrustDeskModel_isFree_0 rfl rfl ?_
  refine mv_iload_n d_TrustDeskModel_isFree_1 rfl rfl ?_
  refine mv_callV_s (kc' := 0) (ks' := 0) [.int 6] [.int 6, .ref 99] d_TrustDeskModel_isFree_2 lV_TrustDeskModel_418 h_99 rfl (c_TrustDeskModel_isFund_7 (d := d) (h_99 := h_99)) rfl (Nat.le_of_ble_eq_true rfl) (Nat.le_of_ble_eq_true rfl) (Nat.le_of_ble_eq_true rfl) rfl ?_
  refine mv_if_eq_t (tgt := 22) d_TrustDeskModel_isFree_5 (by decide) (by decide) ?_
  refine mv_iconst (v := 0) d_TrustDeskModel_isFree_22 (by decide) ?_
  exact mv_iret d_TrustDeskModel_isFree_23 rfl (by first | rfl | decide) ⟨rfl, rfl, rfl⟩
theorem c_TrustDeskModel_isFund_8 {g : mj_G} {l : Launch} {d nx : Nat} {M : mj_M} (h_99 : M 99 = some (.inr (13, [.int 0, .int 0, .int 0, .ref 100, .ref 101, .ref 102, .ref 103, .ref 104, .ref 105, .ref 106, .ref 107, .ref 108, .ref 109, .ref 110, .int 0, .int 0, .int 0, .int 0, .int 0, .int 0, .int 0, .int (-1), .int 0, .int 0, .int 0, .ref 111, .ref 112, .int 0, .ref 113, .ref 114, .ref 115, .int 0, .int 0, .ref 116, .ref 117, .ref 118, .ref 119, .ref 120, .ref 121, .ref 122, .ref 123, .ref 124, .ref 125, .ref 126, .ref 127, .ref 128, .ref 129, .ref 130, .ref 131, .int 0, .ref 132, .int 0, .ref 133, .int 0, .ref 134, .ref 135, .ref 136, .ref 137, .ref 138, .ref 139, .ref 140, .ref 141, .ref 142, .ref 143, .ref 144, .ref 145, .ref 146, .int 0, .long 0, .int 0, .int 0, .ref 147]))) : mj_Met g l kY_TrustDeskModel_isFund d [.ref 99, .int 7] M nx 0 0 (mj_E1 (some (.int 0)) M nx) := by
  refine mj_enter (by decide) (Nat.le_of_ble_eq_true rfl) ?_
  refine mv_iload_n d_TrustDeskModel_isFund_0 rfl rfl ?_
  refine mv_if_lt_f (tgt := 16) d_TrustDeskModel_isFund_1 (by decide) (by decide) ?_
  refine mv_iload_n d_TrustDeskModel_isFund_4 rfl rfl ?_
  refine mv_aload_n d_TrustDeskModel_isFund_5 rfl rfl ?_
  refine mv_get d_TrustDeskModel_isFund_6 f_TrustDeskModel_415_13 h_99 rfl ?_
  refine mv_icmp_ge_t (tgt := 16) d_TrustDeskModel_isFund_9 (by decide) (by decide) ?_
  refine mv_iconst (v := 0) d_TrustDeskModel_isFund_16 (by decide) ?_
  exact mv_iret d_TrustDeskModel_isFund_17 rfl (by first | rfl | decide) ⟨rfl, rfl, rfl⟩
theorem c_TrustDeskModel_isFree_8 {g : mj_G} {l : Launch} {d nx : Nat} {M : mj_M} (h_99 : M 99 = some (.inr (13, [.int 0, .int 0, .int 0, .ref 100, .ref 101, .ref 102, .ref 103, .ref 104, .ref 105, .ref 106, .ref 107, .ref 108, .ref 109, .ref 110, .int 0, .int 0, .int 0, .int 0, .int 0, .int 0, .int 0, .int (-1), .int 0, .int 0, .int 0, .ref 111, .ref 112, .int 0, .ref 113, .ref 114, .ref 115, .int 0, .int 0, .ref 116, .ref 117, .ref 118, .ref 119, .ref 120, .ref 121, .ref 122, .ref 123, .ref 124, .ref 125, .ref 126, .ref 127, .ref 128, .ref 129, .ref 130, .ref 131, .int 0, .ref 132, .int 0, .ref 133, .int 0, .ref 134, .ref 135, .ref 136, .ref 137, .ref 138, .ref 139, .ref 140, .ref 141, .ref 142, .ref 143, .ref 144, .ref 145, .ref 146, .int 0, .long 0, .int 0, .int 0, .ref 147]))) : mj_Met g l kY_TrustDeskModel_isFree (d + 1) [.ref 99, .int 7] M nx 0 0 (mj_E1 (some (.int 0)) M nx) := by
  refine mj_enter (by decide) (Nat.le_of_ble_eq_true rfl) ?_
  refine mv_aload_n d_TrustDeskModel_isFree_0 rfl rfl ?_
  refine mv_iload_n d_TrustDeskModel_isFree_1 rfl rfl ?_
  refine mv_callV_s (kc' := 0) (ks' := 0) [.int 7] [.int 7, .ref 99] d_TrustDeskModel_isFree_2 lV_TrustDeskModel_418 h_99 rfl (c_TrustDeskModel_isFund_8 (d := d) (h_99 := h_99)) rfl (Nat.le_of_ble_eq_true rfl) (Nat.le_of_ble_eq_true rfl) (Nat.le_of_ble_eq_true rfl) rfl ?_
  refine mv_if_eq_t (tgt := 22) d_TrustDeskModel_isFree_5 (by decide) (by decide) ?_
  refine mv_iconst (v := 0) d_TrustDeskModel_isFree_22 (by decide) ?_
  exact mv_iret d_TrustDeskModel_isFree_23 rfl (by first | rfl | decide) ⟨rfl, rfl, rfl⟩
theorem c_TrustDeskModel_isFund_9 {g : mj_G} {l : Launch} {d nx : Nat} {M : mj_M} (h_99 : M 99 = some (.inr (13, [.int 0, .int 0, .int 0, .ref 100, .ref 101, .ref 102, .ref 103, .ref 104, .ref 105, .ref 106, .ref 107, .ref 108, .ref 109, .ref 110, .int 0, .int 0, .int 0, .int 0, .int 0, .int 0, .int 0, .int (-1), .int 0, .int 0, .int 0, .ref 111, .ref 112, .int 0, .ref 113, .ref 114, .ref 115, .int 0, .int 0, .ref 116, .ref 117, .ref 118, .ref 119, .ref 120, .ref 121, .ref 122, .ref 123, .ref 124, .ref 125, .ref 126, .ref 127, .ref 128, .ref 129, .ref 130, .ref 131, .int 0, .ref 132, .int 0, .ref 133, .int 0, .ref 134, .ref 135, .ref 136, .ref 137, .ref 138, .ref 139, .ref 140, .ref 141, .ref 142, .ref 143, .ref 144, .ref 145, .ref 146, .int 0, .long 0, .int 0, .int 0, .ref 147]))) : mj_Met g l kY_TrustDeskModel_isFund d [.ref 99, .int 8] M nx 0 0 (mj_E1 (some (.int 0)) M nx) := by
  refine mj_enter (by decide) (Nat.le_of_ble_eq_true rfl) ?_
  refine mv_iload_n d_TrustDeskModel_isFund_0 rfl rfl ?_
  refine mv_if_lt_f (tgt := 16) d_TrustDeskModel_isFund_1 (by decide) (by decide) ?_
  refine mv_iload_n d_TrustDeskModel_isFund_4 rfl rfl ?_
  refine mv_aload_n d_TrustDeskModel_isFund_5 rfl rfl ?_
  refine mv_get d_TrustDeskModel_isFund_6 f_TrustDeskModel_415_13 h_99 rfl ?_
  refine mv_icmp_ge_t (tgt := 16) d_TrustDeskModel_isFund_9 (by decide) (by decide) ?_
  refine mv_iconst (v := 0) d_TrustDeskModel_isFund_16 (by decide) ?_
  exact mv_iret d_TrustDeskModel_isFund_17 rfl (by first | rfl | decide) ⟨rfl, rfl, rfl⟩
theorem c_TrustDeskModel_isFree_9 {g : mj_G} {l : Launch} {d nx : Nat} {M : mj_M} (h_99 : M 99 = some (.inr (13, [.int 0, .int 0, .int 0, .ref 100, .ref 101, .ref 102, .ref 103, .ref 104, .ref 105, .ref 106, .ref 107, .ref 108, .ref 109, .ref 110, .int 0, .int 0, .int 0, .int 0, .int 0, .int 0, .int 0, .int (-1), .int 0, .int 0, .int 0, .ref 111, .ref 112, .int 0, .ref 113, .ref 114, .ref 115, .int 0, .int 0, .ref 116, .ref 117, .ref 118, .ref 119, .ref 120, .ref 121, .ref 122, .ref 123, .ref 124, .ref 125, .ref 126, .ref 127, .ref 128, .ref 129, .ref 130, .ref 131, .int 0, .ref 132, .int 0, .ref 133, .int 0, .ref 134, .ref 135, .ref 136, .ref 137, .ref 138, .ref 139, .ref 140, .ref 141, .ref 142, .ref 143, .ref 144, .ref 145, .ref 146, .int 0, .long 0, .int 0, .int 0, .ref 147]))) : mj_Met g l kY_TrustDeskModel_isFree (d + 1) [.ref 99, .int 8] M nx 0 0 (mj_E1 (some (.int 0)) M nx) := by
  refine mj_enter (by decide) (Nat.le_of_ble_eq_true rfl) ?_
  refine mv_aload_n d_TrustDeskModel_isFree_0 rfl rfl ?_
  refine mv_iload_n d_TrustDeskModel_isFree_1 rfl rfl ?_
  refine mv_callV_s (kc' := 0) (ks' := 0) [.int 8] [.int 8, .ref 99] d_TrustDeskModel_isFree_2 lV_TrustDeskModel_418 h_99 rfl (c_TrustDeskModel_isFund_9 (d := d) (h_99 := h_99)) rfl (Nat.le_of_ble_eq_true rfl) (Nat.le_of_ble_eq_true rfl) (Nat.le_of_ble_eq_true rfl) rfl ?_
  refine mv_if_eq_t (tgt := 22) d_TrustDeskModel_isFree_5 (by decide) (by decide) ?_
  refine mv_iconst (v := 0) d_TrustDeskModel_isFree_22 (by decide) ?_
  exact mv_iret d_TrustDeskModel_isFree_23 rfl (by first | rfl | decide) ⟨rfl, rfl, rfl⟩
theorem c_TrustDeskModel_isFund_10 {g : mj_G} {l : Launch} {d nx : Nat} {M : mj_M} (h_99 : M 99 = some (.inr (13, [.int 0, .int 0, .int 0, .ref 100, .ref 101, .ref 102, .ref 103, .ref 104, .ref 105, .ref 106, .ref 107, .ref 108, .ref 109, .ref 110, .int 0, .int 0, .int 0, .int 0, .int 0, .int 0, .int 0, .int (-1), .int 0, .int 0, .int 0, .ref 111, .ref 112, .int 0, .ref 113, .ref 114, .ref 115, .int 0, .int 0, .ref 116, .ref 117, .ref 118, .ref 119, .ref 120, .ref 121, .ref 122, .ref 123, .ref 124, .ref 125, .ref 126, .ref 127, .ref 128, .ref 129, .ref 130, .ref 131, .int 0, .ref 132, .int 0, .ref 133, .int 0, .ref 134, .ref 135, .ref 136, .ref 137, .ref 138, .ref 139, .ref 140, .ref 141, .ref 142, .ref 143, .ref 144, .ref 145, .ref 146, .int 0, .long 0, .int 0, .int 0, .ref 147]))) : mj_Met g l kY_TrustDeskModel_isFund d [.ref 99, .int 9] M nx 0 0 (mj_E1 (some (.int 0)) M nx) := by
  refine mj_enter (by decide) (Nat.le_of_ble_eq_true rfl) ?_
  refine mv_iload_n d_TrustDeskModel_isFund_0 rfl rfl ?_
  refine mv_if_lt_f (tgt := 16) d_TrustDeskModel_isFund_1 (by decide) (by decide) ?_
  refine mv_iload_n d_TrustDeskModel_isFund_4 rfl rfl ?_
  refine mv_aload_n d_TrustDeskModel_isFund_5 rfl rfl ?_
  refine mv_get d_TrustDeskModel_isFund_6 f_TrustDeskModel_415_13 h_99 rfl ?_
  refine mv_icmp_ge_t (tgt := 16) d_TrustDeskModel_isFund_9 (by decide) (by decide) ?_
  refine mv_iconst (v := 0) d_TrustDeskModel_isFund_16 (by decide) ?_
  exact mv_iret d_TrustDeskModel_isFund_17 rfl (by first | rfl | decide) ⟨rfl, rfl, rfl⟩
theorem c_TrustDeskModel_isFree_10 {g : mj_G} {l : Launch} {d nx : Nat} {M : mj_M} (h_99 : M 99 = some (.inr (13, [.int 0, .int 0, .int 0, .ref 100, .ref 101, .ref 102, .ref 103, .ref 104, .ref 105, .ref 106, .ref 107, .ref 108, .ref 109, .ref 110, .int 0, .int 0, .int 0, .int 0, .int 0, .int 0, .int 0, .int (-1), .int 0, .int 0, .int 0, .ref 111, .ref 112, .int 0, .ref 113, .ref 114, .ref 115, .int 0, .int 0, .ref 116, .ref 117, .ref 118, .ref 119, .ref 120, .ref 121, .ref 122, .ref 123, .ref 124, .ref 125, .ref 126, .ref 127, .ref 128, .ref 129, .ref 130, .ref 131, .int 0, .ref 132, .int 0, .ref 133, .int 0, .ref 134, .ref 135, .ref 136, .ref 137, .ref 138, .ref 139, .ref 140, .ref 141, .ref 142, .ref 143, .ref 144, .ref 145, .ref 146, .int 0, .long 0, .int 0, .int 0, .ref 147]))) : mj_Met g l kY_TrustDeskModel_isFree (d + 1) [.ref 99, .int 9] M nx 0 0 (mj_E1 (some (.int 0)) M nx) := by
  refine mj_enter (by decide) (Nat.le_of_ble_eq_true rfl) ?_
  refine mv_aload_n d_TrustDeskModel_isFree_0 rfl rfl ?_
  refine mv_iload_n d_TrustDeskModel_isFree_1 rfl rfl ?_
  refine mv_callV_s (kc' := 0) (ks' := 0) [.int 9] [.int 9, .ref 99] d_TrustDeskModel_isFree_2 lV_TrustDeskModel_418 h_99 rfl (c_TrustDeskModel_isFund_10 (d := d) (h_99 := h_99)) rfl (Nat.le_of_ble_eq_true rfl) (Nat.le_of_ble_eq_true rfl) (Nat.le_of_ble_eq_true rfl) rfl ?_
  refine mv_if_eq_t (tgt := 22) d_TrustDeskModel_isFree_5 (by decide) (by decide) ?_
  refine mv_iconst (v := 0) d_TrustDeskModel_isFree_22 (by decide) ?_
  exact mv_iret d_TrustDeskModel_isFree_23 rfl (by first | rfl | decide) ⟨rfl, rfl, rfl⟩
theorem c_TrustDeskModel_isFund_11 {g : mj_G} {l : Launch} {d nx : Nat} {M : mj_M} (h_99 : M 99 = some (.inr (13, [.int 0, .int 0, .int 0, .ref 100, .ref 101, .ref 102, .ref 103, .ref 104, .ref 105, .ref 106, .ref 107, .ref 108, .ref 109, .ref 110, .int 0, .int 0, .int 0, .int 0, .int 0, .int 0, .int 0, .int (-1), .int 0, .int 0, .int 0, .ref 111, .ref 112, .int 0, .ref 113, .ref 114, .ref 115, .int 0, .int 0, .ref 116, .ref 117, .ref 118, .ref 119, .ref 120, .ref 121, .ref 122, .ref 123, .ref 124, .ref 125, .ref 126, .ref 127, .ref 128, .ref 129, .ref 130, .ref 131, .int 0, .ref 132, .int 0, .ref 133, .int 0, .ref 134, .ref 135, .ref 136, .ref 137, .ref 138, .ref 139, .ref 140, .ref 141, .ref 142, .ref 143, .ref 144, .ref 145, .ref 146, .int 0, .long 0, .int 0, .int 0, .ref 147]))) : mj_Met g l kY_TrustDeskModel_isFund d [.ref 99, .int 10] M nx 0 0 (mj_E1 (some (.int 0)) M nx) := by
  refine mj_enter (by decide) (Nat.le_of_ble_eq_true rfl) ?_
  refine mv_iload_n d_TrustDeskModel_isFund_0 rfl rfl ?_
  refine mv_if_lt_f (tgt := 16) d_TrustDeskModel_isFund_1 (by decide) (by decide) ?_
  refine mv_iload_n d_TrustDeskModel_isFund_4 rfl rfl ?_
  refine mv_aload_n d_TrustDeskModel_isFund_5 rfl rfl ?_
  refine mv_get d_TrustDeskModel_isFund_6 f_TrustDeskModel_415_13 h_99 rfl ?_
  refine mv_icmp_ge_t (tgt := 16) d_TrustDeskModel_isFund_9 (by decide) (by decide) ?_
  refine mv_iconst (v := 0) d_TrustDeskModel_isFund_16 (by decide) ?_
  exact mv_iret d_TrustDeskModel_isFund_17 rfl (by first | rfl | decide) ⟨rfl, rfl, rfl⟩
theorem c_TrustDeskModel_isFree_11 {g : mj_G} {l : Launch} {d nx : Nat} {M : mj_M} (h_99 : M 99 = some (.inr (13, [.int 0, .int 0, .int 0, .ref 100, .ref 101, .ref 102, .ref 103, .ref 104, .ref 105, .ref 106, .ref 107, .ref 108, .ref 109, .ref 110, .int 0, .int 0, .int 0, .int 0, .int 0, .int 0, .int 0, .int (-1), .int 0, .int 0, .int 0, .ref 111, .ref 112, .int 0, .ref 113, .ref 114, .ref 115, .int 0, .int 0, .ref 116, .ref 117, .ref 118, .ref 119, .ref 120, .ref 121, .ref 122, .ref 123, .ref 124, .ref 125, .ref 126, .ref 127, .ref 128, .ref 129, .ref 130, .ref 131, .int 0, .ref 132, .int 0, .ref 133, .int 0, .ref 134, .ref 135, .ref 136, .ref 137, .ref 138, .ref 139, .ref 140, .ref 141, .ref 142, .ref 143, .ref 144, .ref 145, .ref 146, .int 0, .long 0, .int 0, .int 0, .ref 147]))) : mj_Met g l kY_TrustDeskModel_isFree (d + 1) [.ref 99, .int 10] M nx 0 0 (mj_E1 (some (.int 0)) M nx) := by
  refine mj_enter (by decide) (Nat.le_of_ble_eq_true rfl) ?_
  refine mv_aload_n d_TrustDeskModel_isFree_0 rfl rfl ?_
  refine mv_iload_n d_TrustDeskModel_isFree_1 rfl rfl ?_
  refine mv_callV_s (kc' := 0) (ks' := 0) [.int 10] [.int 10, .ref 99] d_TrustDeskModel_isFree_2 lV_TrustDeskModel_418 h_99 rfl (c_TrustDeskModel_isFund_11 (d := d) (h_99 := h_99)) rfl (Nat.le_of_ble_eq_true rfl) (Nat.le_of_ble_eq_true rfl) (Nat.le_of_ble_eq_true rfl) rfl ?_
  refine mv_if_eq_t (tgt := 22) d_TrustDeskModel_isFree_5 (by decide) (by decide) ?_
  refine mv_iconst (v := 0) d_TrustDeskModel_isFree_22 (by decide) ?_
  exact mv_iret d_TrustDeskModel_isFree_23 rfl (by first | rfl | decide) ⟨rfl, rfl, rfl⟩
theorem c_TrustDeskModel_isFund_12 {g : mj_G} {l : Launch} {d nx : Nat} {M : mj_M} (h_99 : M 99 = some (.inr (13, [.int 0, .int 0, .int 0, .ref 100, .ref 101, .ref 102, .ref 103, .ref 104, .ref 105, .ref 106, .ref 107, .ref 108, .ref 109, .ref 110, .int 0, .int 0, .int 0, .int 0, .int 0, .int 0, .int 0, .int (-1), .int 0, .int 0, .int 0, .ref 111, .ref 112, .int 0, .ref 113, .ref 114, .ref 115, .int 0, .int 0, .ref 116, .ref 117, .ref 118, .ref 119, .ref 120, .ref 121, .ref 122, .ref 123, .ref 124, .ref 125, .ref 126, .ref 127, .ref 128, .ref 129, .ref 130, .ref 131, .int 0, .ref 132, .int 0, .ref 133, .int 0, .ref 134, .ref 135, .ref 136, .ref 137, .ref 138, .ref 139, .ref 140, .ref 141, .ref 142, .ref 143, .ref 144, .ref 145, .ref 146, .int 0, .long 0, .int 0, .int 0, .ref 147]))) : mj_Met g l kY_TrustDeskModel_isFund d [.ref 99, .int 11] M nx 0 0 (mj_E1 (some (.int 0)) M nx) := by
  refine mj_enter (by decide) (Nat.le_of_ble_eq_true rfl) ?_
  refine mv_iload_n d_TrustDeskModel_isFund_0 rfl rfl ?_
  refine mv_if_lt_f (tgt := 16) d_TrustDeskModel_isFund_1 (by decide) (by decide) ?_
  refine mv_iload_n d_TrustDeskModel_isFund_4 rfl rfl ?_
  refine mv_aload_n d_TrustDeskModel_isFund_5 rfl rfl ?_
  refine mv_get d_TrustDeskModel_isFund_6 f_TrustDeskModel_415_13 h_99 rfl ?_
  refine mv_icmp_ge_t (tgt := 16) d_TrustDeskModel_isFund_9 (by decide) (by decide) ?_
  refine mv_iconst (v := 0) d_TrustDeskModel_isFund_16 (by decide) ?_
  exact mv_iret d_TrustDeskModel_isFund_17 rfl (by first | rfl | decide) ⟨rfl, rfl, rfl⟩
theorem c_TrustDeskModel_isFree_12 {g : mj_G} {l : Launch} {d nx : Nat} {M : mj_M} (h_99 : M 99 = some (.inr (13, [.int 0, .int 0, .int 0, .ref 100, .ref 101, .ref 102, .ref 103, .ref 104, .ref 105, .ref 106, .ref 107, .ref 108, .ref 109, .ref 110, .int 0, .int 0, .int 0, .int 0, .int 0, .int 0, .int 0, .int (-1), .int 0, .int 0, .int 0, .ref 111, .ref 112, .int 0, .ref 113, .ref 114, .ref 115, .int 0, .int 0, .ref 116, .ref 117, .ref 118, .ref 119, .ref 120, .ref 121, .ref 122, .ref 123, .ref 124, .ref 125, .ref 126, .ref 127, .ref 128, .ref 129, .ref 130, .ref 131, .int 0, .ref 132, .int 0, .ref 133, .int 0, .ref 134, .ref 135, .ref 136, .ref 137, .ref 138, .ref 139, .ref 140, .ref 141, .ref 142, .ref 143, .ref 144, .ref 145, .ref 146, .int 0, .long 0, .int 0, .int 0, .ref 147]))) : mj_Met g l kY_TrustDeskModel_isFree (d + 1) [.ref 99, .int 11] M nx 0 0 (mj_E1 (some (.int 0)) M nx) := by
  refine mj_enter (by decide) (Nat.le_of_ble_eq_true rfl) ?_
  refine mv_aload_n d_TrustDeskModel_isFree_0 rfl rfl ?_
  refine mv_iload_n d_TrustDeskModel_isFree_1 rfl rfl ?_
  refine mv_callV_s (kc' := 0) (ks' := 0) [.int 11] [.int 11, .ref 99] d_TrustDeskModel_isFree_2 lV_TrustDeskModel_418 h_99 rfl (c_TrustDeskModel_isFund_12 (d := d) (h_99 := h_99)) rfl (Nat.le_of_ble_eq_true rfl) (Nat.le_of_ble_eq_true rfl) (Nat.le_of_ble_eq_true rfl) rfl ?_
  refine mv_if_eq_t (tgt := 22) d_TrustDeskModel_isFree_5 (by decide) (by decide) ?_
  refine mv_iconst (v := 0) d_TrustDeskModel_isFree_22 (by decide) ?_
  exact mv_iret d_TrustDeskModel_isFree_23 rfl (by first | rfl | decide) ⟨rfl, rfl, rfl⟩
theorem d_TrustDeskModel_areAsked_40 : decode kY_TrustDeskModel_areAsked.2.1 40 = .ok (.iload_n 1, 1) := by decide +kernel
theorem d_TrustDeskModel_areAsked_41 : decode kY_TrustDeskModel_areAsked.2.1 41 = .ok (.ifCond .le 20, 3) := by decide +kernel
theorem d_TrustDeskModel_areAsked_61 : decode kY_TrustDeskModel_areAsked.2.1 61 = .ok (.iconst 0, 1) := by decide +kernel
theorem d_TrustDeskModel_areAsked_62 : decode kY_TrustDeskModel_areAsked.2.1 62 = .ok (.ireturn, 1) := by decide +kernel
theorem d_TrustDeskModel_areAsked_44 : decode kY_TrustDeskModel_areAsked.2.1 44 = .ok (.iload_n 1, 1) := by decide +kernel
theorem d_TrustDeskModel_areAsked_45 : decode kY_TrustDeskModel_areAsked.2.1 45 = .ok (.bipush 12, 2) := by decide +kernel
theorem d_TrustDeskModel_areAsked_47 : decode kY_TrustDeskModel_areAsked.2.1 47 = .ok (.ishr, 1) := by decide +kernel
theorem d_TrustDeskModel_areAsked_48 : decode kY_TrustDeskModel_areAsked.2.1 48 = .ok (.ifCond .ne 13, 3) := by decide +kernel
theorem c_TrustDeskModel_areAsked_0 {g : mj_G} {l : Launch} {d nx : Nat} {M : mj_M} {x1 : Int32} (h_99 : M 99 = some (.inr (13, [.int 0, .int 0, .int 0, .ref 100, .ref 101, .ref 102, .ref 103, .ref 104, .ref 105, .ref 106, .ref 107, .ref 108, .ref 109, .ref 110, .int 0, .int 0, .int 0, .int 0, .int 0, .int 0, .int 0, .int (-1), .int 0, .int 0, .int 0, .ref 111, .ref 112, .int 0, .ref 113, .ref 114, .ref 115, .int 0, .int 0, .ref 116, .ref 117, .ref 118, .ref 119, .ref 120, .ref 121, .ref 122, .ref 123, .ref 124, .ref 125, .ref 126, .ref 127, .ref 128, .ref 129, .ref 130, .ref 131, .int 0, .ref 132, .int 0, .ref 133, .int 0, .ref 134, .ref 135, .ref 136, .ref 137, .ref 138, .ref 139, .ref 140, .ref 141, .ref 142, .ref 143, .ref 144, .ref 145, .ref 146, .int 0, .long 0, .int 0, .int 0, .ref 147]))) : mj_Met g l kY_TrustDeskModel_areAsked (d + 2) [.ref 99, .int x1] M nx 0 0 (mj_E1 (some (.int 0)) M nx) := by
  refine mj_enter (by decide) (Nat.le_of_ble_eq_true rfl) ?_
  refine mv_iconst (v := 0) d_TrustDeskModel_areAsked_0 (by decide) ?_
  refine mv_istore_n (lv' := [(2, .int 0), (0, .ref 99), (1, .int x1)]) d_TrustDeskModel_areAsked_1 rfl (by decide) rfl ?_
  refine mv_iconst (v := 0) d_TrustDeskModel_areAsked_2 (by decide) ?_
  refine mv_istore_n (lv' := [(3, .int 0), (2, .int 0), (0, .ref 99), (1, .int x1)]) d_TrustDeskModel_areAsked_3 rfl (by decide) rfl ?_
  refine mv_iload_n d_TrustDeskModel_areAsked_4 rfl rfl ?_
  refine mv_bipush (v := 12) d_TrustDeskModel_areAsked_5 (by decide) ?_
  refine mv_icmp_ge_f (tgt := 40) d_TrustDeskModel_areAsked_7 (by decide) (by decide) ?_
  refine mv_iload_n d_TrustDeskModel_areAsked_10 rfl rfl ?_
  refine mv_iload_n d_TrustDeskModel_areAsked_11 rfl rfl ?_
  refine mv_ishr d_TrustDeskModel_areAsked_12 ?_
  refine mv_iconst (v := 1) d_TrustDeskModel_areAsked_13 (by decide) ?_
  refine mv_iand d_TrustDeskModel_areAsked_14 ?_
  refine mv_if_neZ (tgt := 21) (a := ((x1 >>> (0 &&& 31)) &&& 1).toInt) d_TrustDeskModel_areAsked_15 (by decide) rfl (fun b1 => ?_) (fun b1 => ?_)
  · refine mv_aload_n d_TrustDeskModel_areAsked_21 rfl rfl ?_
    refine mv_iload_n d_TrustDeskModel_areAsked_22 rfl rfl ?_
    refine mv_callV_s (kc' := 0) (ks' := 0) [.int 0] [.int 0, .ref 99] d_TrustDeskModel_areAsked_23 lV_TrustDeskModel_492 h_99 rfl (c_TrustDeskModel_isFree_1 (d := d) (h_99 := h_99)) rfl (Nat.le_of_ble_eq_true rfl) (Nat.le_of_ble_eq_true rfl) (Nat.le_of_ble_eq_true rfl) rfl ?_
    refine mv_if_ne_f (tgt := 31) d_TrustDeskModel_areAsked_26 (by decide) (by decide) ?_
    refine mv_iconst (v := 0) d_TrustDeskModel_areAsked_29 (by decide) ?_
    exact mv_iret d_TrustDeskModel_areAsked_30 rfl (by first | rfl | decide) ⟨rfl, rfl, rfl⟩
  · refine mv_goto (tgt := 34) d_TrustDeskModel_areAsked_18 (by decide) ?_
    refine mv_iinc (v := 1) (lv' := [(3, .int 1), (2, .int 0), (0, .ref 99), (1, .int x1)]) d_TrustDeskModel_areAsked_34 rfl (by decide) (by decide) rfl ?_
    refine mv_goto (tgt := 4) d_TrustDeskModel_areAsked_37 (by decide) ?_
    refine mv_iload_n d_TrustDeskModel_areAsked_4 rfl rfl ?_
    refine mv_bipush (v := 12) d_TrustDeskModel_areAsked_5 (by decide) ?_
    refine mv_icmp_ge_f (tgt := 40) d_TrustDeskModel_areAsked_7 (by decide) (by decide) ?_
    refine mv_iload_n d_TrustDeskModel_areAsked_10 rfl rfl ?_
    refine mv_iload_n d_TrustDeskModel_areAsked_11 rfl rfl ?_
    refine mv_ishr d_TrustDeskModel_areAsked_12 ?_
    refine mv_iconst (v := 1) d_TrustDeskModel_areAsked_13 (by decide) ?_
    refine mv_iand d_TrustDeskModel_areAsked_14 ?_
    refine mv_if_neZ (tgt := 21) (a := ((x1 >>> (1 &&& 31)) &&& 1).toInt) d_TrustDeskModel_areAsked_15 (by decide) rfl (fun b2 => ?_) (fun b2 => ?_)
    · refine mv_aload_n d_TrustDeskModel_areAsked_21 rfl rfl ?_
      refine mv_iload_n d_TrustDeskModel_areAsked_22 rfl rfl ?_
      refine mv_callV_s (kc' := 0) (ks' := 0) [.int 1] [.int 1, .ref 99] d_TrustDeskModel_areAsked_23 lV_TrustDeskModel_492 h_99 rfl (c_TrustDeskModel_isFree_2 (d := d) (h_99 := h_99)) rfl (Nat.le_of_ble_eq_true rfl) (Nat.le_of_ble_eq_true rfl) (Nat.le_of_ble_eq_true rfl) rfl ?_
      refine mv_if_ne_f (tgt := 31) d_TrustDeskModel_areAsked_26 (by decide) (by decide) ?_
      refine mv_iconst (v := 0) d_TrustDeskModel_areAsked_29 (by decide) ?_
      exact mv_iret d_TrustDeskModel_areAsked_30 rfl (by first | rfl | decide) ⟨rfl, rfl, rfl⟩
    · refine mv_goto (tgt := 34) d_TrustDeskModel_areAsked_18 (by decide) ?_
      refine mv_iinc (v := 2) (lv' := [(3, .int 2), (2, .int 0), (0, .ref 99), (1, .int x1)]) d_TrustDeskModel_areAsked_34 rfl (by decide) (by decide) rfl ?_
      refine mv_goto (tgt := 4) d_TrustDeskModel_areAsked_37 (by decide) ?_
      refine mv_iload_n d_TrustDeskModel_areAsked_4 rfl rfl ?_
      refine mv_bipush (v := 12) d_TrustDeskModel_areAsked_5 (by decide) ?_
      refine mv_icmp_ge_f (tgt := 40) d_TrustDeskModel_areAsked_7 (by decide) (by decide) ?_
      refine mv_iload_n d_TrustDeskModel_areAsked_10 rfl rfl ?_
      refine mv_iload_n d_TrustDeskModel_areAsked_11 rfl rfl ?_
      refine mv_ishr d_TrustDeskModel_areAsked_12 ?_
      refine mv_iconst (v := 1) d_TrustDeskModel_areAsked_13 (by decide) ?_
      refine mv_iand d_TrustDeskModel_areAsked_14 ?_
      refine mv_if_neZ (tgt := 21) (a := ((x1 >>> (2 &&& 31)) &&& 1).toInt) d_TrustDeskModel_areAsked_15 (by decide) rfl (fun b3 => ?_) (fun b3 => ?_)
      · refine mv_aload_n d_TrustDeskModel_areAsked_21 rfl rfl ?_
        refine mv_iload_n d_TrustDeskModel_areAsked_22 rfl rfl ?_
        refine mv_callV_s (kc' := 0) (ks' := 0) [.int 2] [.int 2, .ref 99] d_TrustDeskModel_areAsked_23 lV_TrustDeskModel_492 h_99 rfl (c_TrustDeskModel_isFree_3 (d := d) (h_99 := h_99)) rfl (Nat.le_of_ble_eq_true rfl) (Nat.le_of_ble_eq_true rfl) (Nat.le_of_ble_eq_true rfl) rfl ?_
        refine mv_if_ne_f (tgt := 31) d_TrustDeskModel_areAsked_26 (by decide) (by decide) ?_
        refine mv_iconst (v := 0) d_TrustDeskModel_areAsked_29 (by decide) ?_
        exact mv_iret d_TrustDeskModel_areAsked_30 rfl (by first | rfl | decide) ⟨rfl, rfl, rfl⟩
      · refine mv_goto (tgt := 34) d_TrustDeskModel_areAsked_18 (by decide) ?_
        refine mv_iinc (v := 3) (lv' := [(3, .int 3), (2, .int 0), (0, .ref 99), (1, .int x1)]) d_TrustDeskModel_areAsked_34 rfl (by decide) (by decide) rfl ?_
        refine mv_goto (tgt := 4) d_TrustDeskModel_areAsked_37 (by decide) ?_
        refine mv_iload_n d_TrustDeskModel_areAsked_4 rfl rfl ?_
        refine mv_bipush (v := 12) d_TrustDeskModel_areAsked_5 (by decide) ?_
        refine mv_icmp_ge_f (tgt := 40) d_TrustDeskModel_areAsked_7 (by decide) (by decide) ?_
        refine mv_iload_n d_TrustDeskModel_areAsked_10 rfl rfl ?_
        refine mv_iload_n d_TrustDeskModel_areAsked_11 rfl rfl ?_
        refine mv_ishr d_TrustDeskModel_areAsked_12 ?_
        refine mv_iconst (v := 1) d_TrustDeskModel_areAsked_13 (by decide) ?_
        refine mv_iand d_TrustDeskModel_areAsked_14 ?_
        refine mv_if_neZ (tgt := 21) (a := ((x1 >>> (3 &&& 31)) &&& 1).toInt) d_TrustDeskModel_areAsked_15 (by decide) rfl (fun b4 => ?_) (fun b4 => ?_)
        · refine mv_aload_n d_TrustDeskModel_areAsked_21 rfl rfl ?_
          refine mv_iload_n d_TrustDeskModel_areAsked_22 rfl rfl ?_
          refine mv_callV_s (kc' := 0) (ks' := 0) [.int 3] [.int 3, .ref 99] d_TrustDeskModel_areAsked_23 lV_TrustDeskModel_492 h_99 rfl (c_TrustDeskModel_isFree_4 (d := d) (h_99 := h_99)) rfl (Nat.le_of_ble_eq_true rfl) (Nat.le_of_ble_eq_true rfl) (Nat.le_of_ble_eq_true rfl) rfl ?_
          refine mv_if_ne_f (tgt := 31) d_TrustDeskModel_areAsked_26 (by decide) (by decide) ?_
          refine mv_iconst (v := 0) d_TrustDeskModel_areAsked_29 (by decide) ?_
          exact mv_iret d_TrustDeskModel_areAsked_30 rfl (by first | rfl | decide) ⟨rfl, rfl, rfl⟩
        · refine mv_goto (tgt := 34) d_TrustDeskModel_areAsked_18 (by decide) ?_
          refine mv_iinc (v := 4) (lv' := [(3, .int 4), (2, .int 0), (0, .ref 99), (1, .int x1)]) d_TrustDeskModel_areAsked_34 rfl (by decide) (by decide) rfl ?_
          refine mv_goto (tgt := 4) d_TrustDeskModel_areAsked_37 (by decide) ?_
          refine mv_iload_n d_TrustDeskModel_areAsked_4 rfl rfl ?_
          refine mv_bipush (v := 12) d_TrustDeskModel_areAsked_5 (by decide) ?_
          refine mv_icmp_ge_f (tgt := 40) d_TrustDeskModel_areAsked_7 (by decide) (by decide) ?_
          refine mv_iload_n d_TrustDeskModel_areAsked_10 rfl rfl ?_
          refine mv_iload_n d_TrustDeskModel_areAsked_11 rfl rfl ?_
          refine mv_ishr d_TrustDeskModel_areAsked_12 ?_
          refine mv_iconst (v := 1) d_TrustDeskModel_areAsked_13 (by decide) ?_
          refine mv_iand d_TrustDeskModel_areAsked_14 ?_
          refine mv_if_neZ (tgt := 21) (a := ((x1 >>> (4 &&& 31)) &&& 1).toInt) d_TrustDeskModel_areAsked_15 (by decide) rfl (fun b5 => ?_) (fun b5 => ?_)
          · refine mv_aload_n d_TrustDeskModel_areAsked_21 rfl rfl ?_
            refine mv_iload_n d_TrustDeskModel_areAsked_22 rfl rfl ?_
            refine mv_callV_s (kc' := 0) (ks' := 0) [.int 4] [.int 4, .ref 99] d_TrustDeskModel_areAsked_23 lV_TrustDeskModel_492 h_99 rfl (c_TrustDeskModel_isFree_5 (d := d) (h_99 := h_99)) rfl (Nat.le_of_ble_eq_true rfl) (Nat.le_of_ble_eq_true rfl) (Nat.le_of_ble_eq_true rfl) rfl ?_
            refine mv_if_ne_f (tgt := 31) d_TrustDeskModel_areAsked_26 (by decide) (by decide) ?_
            refine mv_iconst (v := 0) d_TrustDeskModel_areAsked_29 (by decide) ?_
            exact mv_iret d_TrustDeskModel_areAsked_30 rfl (by first | rfl | decide) ⟨rfl, rfl, rfl⟩
          · refine mv_goto (tgt := 34) d_TrustDeskModel_areAsked_18 (by decide) ?_
            refine mv_iinc (v := 5) (lv' := [(3, .int 5), (2, .int 0), (0, .ref 99), (1, .int x1)]) d_TrustDeskModel_areAsked_34 rfl (by decide) (by decide) rfl ?_
            refine mv_goto (tgt := 4) d_TrustDeskModel_areAsked_37 (by decide) ?_
            refine mv_iload_n d_TrustDeskModel_areAsked_4 rfl rfl ?_
            refine mv_bipush (v := 12) d_TrustDeskModel_areAsked_5 (by decide) ?_
            refine mv_icmp_ge_f (tgt := 40) d_TrustDeskModel_areAsked_7 (by decide) (by decide) ?_
            refine mv_iload_n d_TrustDeskModel_areAsked_10 rfl rfl ?_
            refine mv_iload_n d_TrustDeskModel_areAsked_11 rfl rfl ?_
            refine mv_ishr d_TrustDeskModel_areAsked_12 ?_
            refine mv_iconst (v := 1) d_TrustDeskModel_areAsked_13 (by decide) ?_
            refine mv_iand d_TrustDeskModel_areAsked_14 ?_
            refine mv_if_neZ (tgt := 21) (a := ((x1 >>> (5 &&& 31)) &&& 1).toInt) d_TrustDeskModel_areAsked_15 (by decide) rfl (fun b6 => ?_) (fun b6 => ?_)
            · refine mv_aload_n d_TrustDeskModel_areAsked_21 rfl rfl ?_
              refine mv_iload_n d_TrustDeskModel_areAsked_22 rfl rfl ?_
              refine mv_callV_s (kc' := 0) (ks' := 0) [.int 5] [.int 5, .ref 99] d_TrustDeskModel_areAsked_23 lV_TrustDeskModel_492 h_99 rfl (c_TrustDeskModel_isFree_6 (d := d) (h_99 := h_99)) rfl (Nat.le_of_ble_eq_true rfl) (Nat.le_of_ble_eq_true rfl) (Nat.le_of_ble_eq_true rfl) rfl ?_
              refine mv_if_ne_f (tgt := 31) d_TrustDeskModel_areAsked_26 (by decide) (by decide) ?_
              refine mv_iconst (v := 0) d_TrustDeskModel_areAsked_29 (by decide) ?_
              exact mv_iret d_TrustDeskModel_areAsked_30 rfl (by first | rfl | decide) ⟨rfl, rfl, rfl⟩
            · refine mv_goto (tgt := 34) d_TrustDeskModel_areAsked_18 (by decide) ?_
              refine mv_iinc (v := 6) (lv' := [(3, .int 6), (2, .int 0), (0, .ref 99), (1, .int x1)]) d_TrustDeskModel_areAsked_34 rfl (by decide) (by decide) rfl ?_
              refine mv_goto (tgt := 4) d_TrustDeskModel_areAsked_37 (by decide) ?_
              refine mv_iload_n d_TrustDeskModel_areAsked_4 rfl rfl ?_
              refine mv_bipush (v := 12) d_TrustDeskModel_areAsked_5 (by decide) ?_
              refine mv_icmp_ge_f (tgt := 40) d_TrustDeskModel_areAsked_7 (by decide) (by decide) ?_
              refine mv_iload_n d_TrustDeskModel_areAsked_10 rfl rfl ?_
              refine mv_iload_n d_TrustDeskModel_areAsked_11 rfl rfl ?_
              refine mv_ishr d_TrustDeskModel_areAsked_12 ?_
              refine mv_iconst (v := 1) d_TrustDeskModel_areAsked_13 (by decide) ?_
              refine mv_iand d_TrustDeskModel_areAsked_14 ?_
              refine mv_if_neZ (tgt := 21) (a := ((x1 >>> (6 &&& 31)) &&& 1).toInt) d_TrustDeskModel_areAsked_15 (by decide) rfl (fun b7 => ?_) (fun b7 => ?_)
              · refine mv_aload_n d_TrustDeskModel_areAsked_21 rfl rfl ?_
                refine mv_iload_n d_TrustDeskModel_areAsked_22 rfl rfl ?_
                refine mv_callV_s (kc' := 0) (ks' := 0) [.int 6] [.int 6, .ref 99] d_TrustDeskModel_areAsked_23 lV_TrustDeskModel_492 h_99 rfl (c_TrustDeskModel_isFree_7 (d := d) (h_99 := h_99)) rfl (Nat.le_of_ble_eq_true rfl) (Nat.le_of_ble_eq_true rfl) (Nat.le_of_ble_eq_true rfl) rfl ?_
                refine mv_if_ne_f (tgt := 31) d_TrustDeskModel_areAsked_26 (by decide) (by decide) ?_
                refine mv_iconst (v := 0) d_TrustDeskModel_areAsked_29 (by decide) ?_
                exact mv_iret d_TrustDeskModel_areAsked_30 rfl (by first | rfl | decide) ⟨rfl, rfl, rfl⟩
              · refine mv_goto (tgt := 34) d_TrustDeskModel_areAsked_18 (by decide) ?_
                refine mv_iinc (v := 7) (lv' := [(3, .int 7), (2, .int 0), (0, .ref 99), (1, .int x1)]) d_TrustDeskModel_areAsked_34 rfl (by decide) (by decide) rfl ?_
                refine mv_goto (tgt := 4) d_TrustDeskModel_areAsked_37 (by decide) ?_
                refine mv_iload_n d_TrustDeskModel_areAsked_4 rfl rfl ?_
                refine mv_bipush (v := 12) d_TrustDeskModel_areAsked_5 (by decide) ?_
                refine mv_icmp_ge_f (tgt := 40) d_TrustDeskModel_areAsked_7 (by decide) (by decide) ?_
                refine mv_iload_n d_TrustDeskModel_areAsked_10 rfl rfl ?_
                refine mv_iload_n d_TrustDeskModel_areAsked_11 rfl rfl ?_
                refine mv_ishr d_TrustDeskModel_areAsked_12 ?_
                refine mv_iconst (v := 1) d_TrustDeskModel_areAsked_13 (by decide) ?_
                refine mv_iand d_TrustDeskModel_areAsked_14 ?_
                refine mv_if_neZ (tgt := 21) (a := ((x1 >>> (7 &&& 31)) &&& 1).toInt) d_TrustDeskModel_areAsked_15 (by decide) rfl (fun b8 => ?_) (fun b8 => ?_)
                · refine mv_aload_n d_TrustDeskModel_areAsked_21 rfl rfl ?_
                  refine mv_iload_n d_TrustDeskModel_areAsked_22 rfl rfl ?_
                  refine mv_callV_s (kc' := 0) (ks' := 0) [.int 7] [.int 7, .ref 99] d_TrustDeskModel_areAsked_23 lV_TrustDeskModel_492 h_99 rfl (c_TrustDeskModel_isFree_8 (d := d) (h_99 := h_99)) rfl (Nat.le_of_ble_eq_true rfl) (Nat.le_of_ble_eq_true rfl) (Nat.le_of_ble_eq_true rfl) rfl ?_
                  refine mv_if_ne_f (tgt := 31) d_TrustDeskModel_areAsked_26 (by decide) (by decide) ?_
                  refine mv_iconst (v := 0) d_TrustDeskModel_areAsked_29 (by decide) ?_
                  exact mv_iret d_TrustDeskModel_areAsked_30 rfl (by first | rfl | decide) ⟨rfl, rfl, rfl⟩
                · refine mv_goto (tgt := 34) d_TrustDeskModel_areAsked_18 (by decide) ?_
                  refine mv_iinc (v := 8) (lv' := [(3, .int 8), (2, .int 0), (0, .ref 99), (1, .int x1)]) d_TrustDeskModel_areAsked_34 rfl (by decide) (by decide) rfl ?_
                  refine mv_goto (tgt := 4) d_TrustDeskModel_areAsked_37 (by decide) ?_
                  refine mv_iload_n d_TrustDeskModel_areAsked_4 rfl rfl ?_
                  refine mv_bipush (v := 12) d_TrustDeskModel_areAsked_5 (by decide) ?_
                  refine mv_icmp_ge_f (tgt := 40) d_TrustDeskModel_areAsked_7 (by decide) (by decide) ?_
                  refine mv_iload_n d_TrustDeskModel_areAsked_10 rfl rfl ?_
                  refine mv_iload_n d_TrustDeskModel_areAsked_11 rfl rfl ?_
                  refine mv_ishr d_TrustDeskModel_areAsked_12 ?_
                  refine mv_iconst (v := 1) d_TrustDeskModel_areAsked_13 (by decide) ?_
                  refine mv_iand d_TrustDeskModel_areAsked_14 ?_
                  refine mv_if_neZ (tgt := 21) (a := ((x1 >>> (8 &&& 31)) &&& 1).toInt) d_TrustDeskModel_areAsked_15 (by decide) rfl (fun b9 => ?_) (fun b9 => ?_)
                  · refine mv_aload_n d_TrustDeskModel_areAsked_21 rfl rfl ?_
                    refine mv_iload_n d_TrustDeskModel_areAsked_22 rfl rfl ?_
                    refine mv_callV_s (kc' := 0) (ks' := 0) [.int 8] [.int 8, .ref 99] d_TrustDeskModel_areAsked_23 lV_TrustDeskModel_492 h_99 rfl (c_TrustDeskModel_isFree_9 (d := d) (h_99 := h_99)) rfl (Nat.le_of_ble_eq_true rfl) (Nat.le_of_ble_eq_true rfl) (Nat.le_of_ble_eq_true rfl) rfl ?_
                    refine mv_if_ne_f (tgt := 31) d_TrustDeskModel_areAsked_26 (by decide) (by decide) ?_
                    refine mv_iconst (v := 0) d_TrustDeskModel_areAsked_29 (by decide) ?_
                    exact mv_iret d_TrustDeskModel_areAsked_30 rfl (by first | rfl | decide) ⟨rfl, rfl, rfl⟩
                  · refine mv_goto (tgt := 34) d_TrustDeskModel_areAsked_18 (by decide) ?_
                    refine mv_iinc (v := 9) (lv' := [(3, .int 9), (2, .int 0), (0, .ref 99), (1, .int x1)]) d_TrustDeskModel_areAsked_34 rfl (by decide) (by decide) rfl ?_
                    refine mv_goto (tgt := 4) d_TrustDeskModel_areAsked_37 (by decide) ?_
                    refine mv_iload_n d_TrustDeskModel_areAsked_4 rfl rfl ?_
                    refine mv_bipush (v := 12) d_TrustDeskModel_areAsked_5 (by decide) ?_
                    refine mv_icmp_ge_f (tgt := 40) d_TrustDeskModel_areAsked_7 (by decide) (by decide) ?_
                    refine mv_iload_n d_TrustDeskModel_areAsked_10 rfl rfl ?_
                    refine mv_iload_n d_TrustDeskModel_areAsked_11 rfl rfl ?_
                    refine mv_ishr d_TrustDeskModel_areAsked_12 ?_
                    refine mv_iconst (v := 1) d_TrustDeskModel_areAsked_13 (by decide) ?_
                    refine mv_iand d_TrustDeskModel_areAsked_14 ?_
                    refine mv_if_neZ (tgt := 21) (a := ((x1 >>> (9 &&& 31)) &&& 1).toInt) d_TrustDeskModel_areAsked_15 (by decide) rfl (fun b10 => ?_) (fun b10 => ?_)
                    · refine mv_aload_n d_TrustDeskModel_areAsked_21 rfl rfl ?_
                      refine mv_iload_n d_TrustDeskModel_areAsked_22 rfl rfl ?_
                      refine mv_callV_s (kc' := 0) (ks' := 0) [.int 9] [.int 9, .ref 99] d_TrustDeskModel_areAsked_23 lV_TrustDeskModel_492 h_99 rfl (c_TrustDeskModel_isFree_10 (d := d) (h_99 := h_99)) rfl (Nat.le_of_ble_eq_true rfl) (Nat.le_of_ble_eq_true rfl) (Nat.le_of_ble_eq_true rfl) rfl ?_
                      refine mv_if_ne_f (tgt := 31) d_TrustDeskModel_areAsked_26 (by decide) (by decide) ?_
                      refine mv_iconst (v := 0) d_TrustDeskModel_areAsked_29 (by decide) ?_
                      exact mv_iret d_TrustDeskModel_areAsked_30 rfl (by first | rfl | decide) ⟨rfl, rfl, rfl⟩
                    · refine mv_goto (tgt := 34) d_TrustDeskModel_areAsked_18 (by decide) ?_
                      refine mv_iinc (v := 10) (lv' := [(3, .int 10), (2, .int 0), (0, .ref 99), (1, .int x1)]) d_TrustDeskModel_areAsked_34 rfl (by decide) (by decide) rfl ?_
                      refine mv_goto (tgt := 4) d_TrustDeskModel_areAsked_37 (by decide) ?_
                      refine mv_iload_n d_TrustDeskModel_areAsked_4 rfl rfl ?_
                      refine mv_bipush (v := 12) d_TrustDeskModel_areAsked_5 (by decide) ?_
                      refine mv_icmp_ge_f (tgt := 40) d_TrustDeskModel_areAsked_7 (by decide) (by decide) ?_
                      refine mv_iload_n d_TrustDeskModel_areAsked_10 rfl rfl ?_
                      refine mv_iload_n d_TrustDeskModel_areAsked_11 rfl rfl ?_
                      refine mv_ishr d_TrustDeskModel_areAsked_12 ?_
                      refine mv_iconst (v := 1) d_TrustDeskModel_areAsked_13 (by decide) ?_
                      refine mv_iand d_TrustDeskModel_areAsked_14 ?_
                      refine mv_if_neZ (tgt := 21) (a := ((x1 >>> (10 &&& 31)) &&& 1).toInt) d_TrustDeskModel_areAsked_15 (by decide) rfl (fun b11 => ?_) (fun b11 => ?_)
                      · refine mv_aload_n d_TrustDeskModel_areAsked_21 rfl rfl ?_
                        refine mv_iload_n d_TrustDeskModel_areAsked_22 rfl rfl ?_
                        refine mv_callV_s (kc' := 0) (ks' := 0) [.int 10] [.int 10, .ref 99] d_TrustDeskModel_areAsked_23 lV_TrustDeskModel_492 h_99 rfl (c_TrustDeskModel_isFree_11 (d := d) (h_99 := h_99)) rfl (Nat.le_of_ble_eq_true rfl) (Nat.le_of_ble_eq_true rfl) (Nat.le_of_ble_eq_true rfl) rfl ?_
                        refine mv_if_ne_f (tgt := 31) d_TrustDeskModel_areAsked_26 (by decide) (by decide) ?_
                        refine mv_iconst (v := 0) d_TrustDeskModel_areAsked_29 (by decide) ?_
                        exact mv_iret d_TrustDeskModel_areAsked_30 rfl (by first | rfl | decide) ⟨rfl, rfl, rfl⟩
                      · refine mv_goto (tgt := 34) d_TrustDeskModel_areAsked_18 (by decide) ?_
                        refine mv_iinc (v := 11) (lv' := [(3, .int 11), (2, .int 0), (0, .ref 99), (1, .int x1)]) d_TrustDeskModel_areAsked_34 rfl (by decide) (by decide) rfl ?_
                        refine mv_goto (tgt := 4) d_TrustDeskModel_areAsked_37 (by decide) ?_
                        refine mv_iload_n d_TrustDeskModel_areAsked_4 rfl rfl ?_
                        refine mv_bipush (v := 12) d_TrustDeskModel_areAsked_5 (by decide) ?_
                        refine mv_icmp_ge_f (tgt := 40) d_TrustDeskModel_areAsked_7 (by decide) (by decide) ?_
                        refine mv_iload_n d_TrustDeskModel_areAsked_10 rfl rfl ?_
                        refine mv_iload_n d_TrustDeskModel_areAsked_11 rfl rfl ?_
                        refine mv_ishr d_TrustDeskModel_areAsked_12 ?_
                        refine mv_iconst (v := 1) d_TrustDeskModel_areAsked_13 (by decide) ?_
                        refine mv_iand d_TrustDeskModel_areAsked_14 ?_
                        refine mv_if_neZ (tgt := 21) (a := ((x1 >>> (11 &&& 31)) &&& 1).toInt) d_TrustDeskModel_areAsked_15 (by decide) rfl (fun b12 => ?_) (fun b12 => ?_)
                        · refine mv_aload_n d_TrustDeskModel_areAsked_21 rfl rfl ?_
                          refine mv_iload_n d_TrustDeskModel_areAsked_22 rfl rfl ?_
                          refine mv_callV_s (kc' := 0) (ks' := 0) [.int 11] [.int 11, .ref 99] d_TrustDeskModel_areAsked_23 lV_TrustDeskModel_492 h_99 rfl (c_TrustDeskModel_isFree_12 (d := d) (h_99 := h_99)) rfl (Nat.le_of_ble_eq_true rfl) (Nat.le_of_ble_eq_true rfl) (Nat.le_of_ble_eq_true rfl) rfl ?_
                          refine mv_if_ne_f (tgt := 31) d_TrustDeskModel_areAsked_26 (by decide) (by decide) ?_
                          refine mv_iconst (v := 0) d_TrustDeskModel_areAsked_29 (by decide) ?_
                          exact mv_iret d_TrustDeskModel_areAsked_30 rfl (by first | rfl | decide) ⟨rfl, rfl, rfl⟩
                        · refine mv_goto (tgt := 34) d_TrustDeskModel_areAsked_18 (by decide) ?_
                          refine mv_iinc (v := 12) (lv' := [(3, .int 12), (2, .int 0), (0, .ref 99), (1, .int x1)]) d_TrustDeskModel_areAsked_34 rfl (by decide) (by decide) rfl ?_
                          refine mv_goto (tgt := 4) d_TrustDeskModel_areAsked_37 (by decide) ?_
                          refine mv_iload_n d_TrustDeskModel_areAsked_4 rfl rfl ?_
                          refine mv_bipush (v := 12) d_TrustDeskModel_areAsked_5 (by decide) ?_
                          refine mv_icmp_ge_t (tgt := 40) d_TrustDeskModel_areAsked_7 (by decide) (by decide) ?_
                          refine mv_iload_n d_TrustDeskModel_areAsked_40 rfl rfl ?_
                          refine mv_if_leZ (tgt := 61) (a := x1.toInt) d_TrustDeskModel_areAsked_41 (by decide) rfl (fun b13 => ?_) (fun b13 => ?_)
                          · refine mv_iconst (v := 0) d_TrustDeskModel_areAsked_61 (by decide) ?_
                            exact mv_iret d_TrustDeskModel_areAsked_62 rfl (by first | rfl | decide) ⟨rfl, rfl, rfl⟩
                          · refine mv_iload_n d_TrustDeskModel_areAsked_44 rfl rfl ?_
                            refine mv_bipush (v := 12) d_TrustDeskModel_areAsked_45 (by decide) ?_
                            refine mv_ishr d_TrustDeskModel_areAsked_47 ?_
                            refine mv_if_neZ (tgt := 61) (a := (x1 >>> (12 &&& 31)).toInt) d_TrustDeskModel_areAsked_48 (by decide) rfl (fun b14 => ?_) (fun b14 => (mj_aa (by omega) b14 (by assumption) (by assumption) (by assumption) (by assumption) (by assumption) (by assumption) (by assumption) (by assumption) (by assumption) (by assumption) (by assumption) (by assumption)).elim)
                            refine mv_iconst (v := 0) d_TrustDeskModel_areAsked_61 (by decide) ?_
                            exact mv_iret d_TrustDeskModel_areAsked_62 rfl (by first | rfl | decide) ⟨rfl, rfl, rfl⟩
theorem d_TrustDeskModel_groups_5 : decode kY_TrustDeskModel_groups.2.1 5 = .ok (.ifCond .ne 5, 3) := by decide +kernel
theorem d_TrustDeskModel_groups_8 : decode kY_TrustDeskModel_groups.2.1 8 = .ok (.iconst 0, 1) := by decide +kernel
theorem d_TrustDeskModel_groups_9 : decode kY_TrustDeskModel_groups.2.1 9 = .ok (.ireturn, 1) := by decide +kernel
theorem c_TrustDeskModel_groups_0 {g : mj_G} {l : Launch} {d nx : Nat} {M : mj_M} {x1 : Int32} (h_99 : M 99 = some (.inr (13, [.int 0, .int 0, .int 0, .ref 100, .ref 101, .ref 102, .ref 103, .ref 104, .ref 105, .ref 106, .ref 107, .ref 108, .ref 109, .ref 110, .int 0, .int 0, .int 0, .int 0, .int 0, .int 0, .int 0, .int (-1), .int 0, .int 0, .int 0, .ref 111, .ref 112, .int 0, .ref 113, .ref 114, .ref 115, .int 0, .int 0, .ref 116, .ref 117, .ref 118, .ref 119, .ref 120, .ref 121, .ref 122, .ref 123, .ref 124, .ref 125, .ref 126, .ref 127, .ref 128, .ref 129, .ref 130, .ref 131, .int 0, .ref 132, .int 0, .ref 133, .int 0, .ref 134, .ref 135, .ref 136, .ref 137, .ref 138, .ref 139, .ref 140, .ref 141, .ref 142, .ref 143, .ref 144, .ref 145, .ref 146, .int 0, .long 0, .int 0, .int 0, .ref 147]))) : mj_Met g l kY_TrustDeskModel_groups (d + 3) [.ref 99, .int x1] M nx 0 0 (mj_E1 (some (.int 0)) M nx) := by
  refine mj_enter (by decide) (Nat.le_of_ble_eq_true rfl) ?_
  refine mv_aload_n d_TrustDeskModel_groups_0 rfl rfl ?_
  refine mv_iload_n d_TrustDeskModel_groups_1 rfl rfl ?_
  refine mv_callV_s (kc' := 0) (ks' := 0) [.int x1] [.int x1, .ref 99] d_TrustDeskModel_groups_2 lV_TrustDeskModel_581 h_99 rfl (c_TrustDeskModel_areAsked_0 (d := d) (x1 := x1) (h_99 := h_99)) rfl (Nat.le_of_ble_eq_true rfl) (Nat.le_of_ble_eq_true rfl) (Nat.le_of_ble_eq_true rfl) rfl ?_
  refine mv_if_ne_f (tgt := 10) d_TrustDeskModel_groups_5 (by decide) (by decide) ?_
  refine mv_iconst (v := 0) d_TrustDeskModel_groups_8 (by decide) ?_
  exact mv_iret d_TrustDeskModel_groups_9 rfl (by first | rfl | decide) ⟨rfl, rfl, rfl⟩
theorem d_TrustDeskModel_group_10 : decode kY_TrustDeskModel_group.2.1 10 = .ok (.ifCond .eq 10, 3) := by decide +kernel
theorem d_TrustDeskModel_group_20 : decode kY_TrustDeskModel_group.2.1 20 = .ok (.ldc2_w 590, 3) := by decide +kernel
theorem d_TrustDeskModel_group_23 : decode kY_TrustDeskModel_group.2.1 23 = .ok (.lreturn, 1) := by decide +kernel
theorem c_TrustDeskModel_group_0 {g : mj_G} {l : Launch} {d nx : Nat} {M : mj_M} {x1 : Int32} (h_99 : M 99 = some (.inr (13, [.int 0, .int 0, .int 0, .ref 100, .ref 101, .ref 102, .ref 103, .ref 104, .ref 105, .ref 106, .ref 107, .ref 108, .ref 109, .ref 110, .int 0, .int 0, .int 0, .int 0, .int 0, .int 0, .int 0, .int (-1), .int 0, .int 0, .int 0, .ref 111, .ref 112, .int 0, .ref 113, .ref 114, .ref 115, .int 0, .int 0, .ref 116, .ref 117, .ref 118, .ref 119, .ref 120, .ref 121, .ref 122, .ref 123, .ref 124, .ref 125, .ref 126, .ref 127, .ref 128, .ref 129, .ref 130, .ref 131, .int 0, .ref 132, .int 0, .ref 133, .int 0, .ref 134, .ref 135, .ref 136, .ref 137, .ref 138, .ref 139, .ref 140, .ref 141, .ref 142, .ref 143, .ref 144, .ref 145, .ref 146, .int 0, .long 0, .int 0, .int 0, .ref 147]))) : mj_Met g l kY_TrustDeskModel_group (d + 4) [.ref 99, .int x1] M nx 0 0 (mj_E1 (some (.long (-1))) (mj_up M 99 (.inr (13, [.int 0, .int 0, .int 0, .ref 100, .ref 101, .ref 102, .ref 103, .ref 104, .ref 105, .ref 106, .ref 107, .ref 108, .ref 109, .ref 110, .int 0, .int 0, .int 0, .int 0, .int 0, .int 0, .int 0, .int (-1), .int 0, .int 0, .int 0, .ref 111, .ref 112, .int 0, .ref 113, .ref 114, .ref 115, .int 0, .int 0, .ref 116, .ref 117, .ref 118, .ref 119, .ref 120, .ref 121, .ref 122, .ref 123, .ref 124, .ref 125, .ref 126, .ref 127, .ref 128, .ref 129, .ref 130, .ref 131, .int 0, .ref 132, .int 0, .ref 133, .int 0, .ref 134, .ref 135, .ref 136, .ref 137, .ref 138, .ref 139, .ref 140, .ref 141, .ref 142, .ref 143, .ref 144, .ref 145, .ref 146, .int 0, .long 0, .int 0, .int 0, .ref 147]))) nx) := by
  refine mj_enter (by decide) (Nat.le_of_ble_eq_true rfl) ?_
  refine mv_aload_n d_TrustDeskModel_group_0 rfl rfl ?_
  refine mv_iconst (v := 0) d_TrustDeskModel_group_1 (by decide) ?_
  refine mv_put (fs' := [.int 0, .int 0, .int 0, .ref 100, .ref 101, .ref 102, .ref 103, .ref 104, .ref 105, .ref 106, .ref 107, .ref 108, .ref 109, .ref 110, .int 0, .int 0, .int 0, .int 0, .int 0, .int 0, .int 0, .int (-1), .int 0, .int 0, .int 0, .ref 111, .ref 112, .int 0, .ref 113, .ref 114, .ref 115, .int 0, .int 0, .ref 116, .ref 117, .ref 118, .ref 119, .ref 120, .ref 121, .ref 122, .ref 123, .ref 124, .ref 125, .ref 126, .ref 127, .ref 128, .ref 129, .ref 130, .ref 131, .int 0, .ref 132, .int 0, .ref 133, .int 0, .ref 134, .ref 135, .ref 136, .ref 137, .ref 138, .ref 139, .ref 140, .ref 141, .ref 142, .ref 143, .ref 144, .ref 145, .ref 146, .int 0, .long 0, .int 0, .int 0, .ref 147]) d_TrustDeskModel_group_2 p_TrustDeskModel_1_13 h_99 (Nat.le_of_ble_eq_true rfl) rfl rfl rfl ?_
  refine mv_aload_n d_TrustDeskModel_group_5 rfl rfl ?_
  refine mv_iload_n d_TrustDeskModel_group_6 rfl rfl ?_
  refine mv_callV_s (kc' := 0) (ks' := 0) [.int x1] [.int x1, .ref 99] d_TrustDeskModel_group_7 lV_TrustDeskModel_587 (mj_up_self _ _ _) rfl (c_TrustDeskModel_groups_0 (d := d) (x1 := x1) (h_99 := (mj_up_self _ _ _))) rfl (Nat.le_of_ble_eq_true rfl) (Nat.le_of_ble_eq_true rfl) (Nat.le_of_ble_eq_true rfl) rfl ?_
  refine mv_if_eq_t (tgt := 20) d_TrustDeskModel_group_10 (by decide) (by decide) ?_
  refine mv_ldc2 d_TrustDeskModel_group_20 k_TrustDeskModel_590 ?_
  exact mv_lret d_TrustDeskModel_group_23 rfl ⟨rfl, rfl, rfl⟩
abbrev kY_TrustDeskModel_grouped : mj_Y := (⟨"TrustDeskModel", "grouped", "(II)I"⟩, prog_14_method_98_code, 3, (Option.some Jvm.ClassFile.FieldType.int))
theorem d_TrustDeskModel_grouped_0 : decode kY_TrustDeskModel_grouped.2.1 0 = .ok (.aload_n 0, 1) := by decide +kernel
theorem d_TrustDeskModel_grouped_1 : decode kY_TrustDeskModel_grouped.2.1 1 = .ok (.iconst 0, 1) := by decide +kernel
theorem d_TrustDeskModel_grouped_2 : decode kY_TrustDeskModel_grouped.2.1 2 = .ok (.putfield 1, 3) := by decide +kernel
theorem d_TrustDeskModel_grouped_5 : decode kY_TrustDeskModel_grouped.2.1 5 = .ok (.aload_n 0, 1) := by decide +kernel
theorem d_TrustDeskModel_grouped_6 : decode kY_TrustDeskModel_grouped.2.1 6 = .ok (.iload_n 2, 1) := by decide +kernel
theorem d_TrustDeskModel_grouped_7 : decode kY_TrustDeskModel_grouped.2.1 7 = .ok (.invokevirtual 418, 3) := by decide +kernel
theorem d_TrustDeskModel_grouped_10 : decode kY_TrustDeskModel_grouped.2.1 10 = .ok (.ifCond .eq 29, 3) := by decide +kernel
theorem d_TrustDeskModel_grouped_39 : decode kY_TrustDeskModel_grouped.2.1 39 = .ok (.iconst (-1), 1) := by decide +kernel
theorem d_TrustDeskModel_grouped_40 : decode kY_TrustDeskModel_grouped.2.1 40 = .ok (.ireturn, 1) := by decide +kernel
theorem c_TrustDeskModel_grouped_0 {g : mj_G} {l : Launch} {d nx : Nat} {M : mj_M} {x1 : Int32} {x2 : Int32} (h_99 : M 99 = some (.inr (13, [.int 0, .int 0, .int 0, .ref 100, .ref 101, .ref 102, .ref 103, .ref 104, .ref 105, .ref 106, .ref 107, .ref 108, .ref 109, .ref 110, .int 0, .int 0, .int 0, .int 0, .int 0, .int 0, .int 0, .int (-1), .int 0, .int 0, .int 0, .ref 111, .ref 112, .int 0, .ref 113, .ref 114, .ref 115, .int 0, .int 0, .ref 116, .ref 117, .ref 118, .ref 119, .ref 120, .ref 121, .ref 122, .ref 123, .ref 124, .ref 125, .ref 126, .ref 127, .ref 128, .ref 129, .ref 130, .ref 131, .int 0, .ref 132, .int 0, .ref 133, .int 0, .ref 134, .ref 135, .ref 136, .ref 137, .ref 138, .ref 139, .ref 140, .ref 141, .ref 142, .ref 143, .ref 144, .ref 145, .ref 146, .int 0, .long 0, .int 0, .int 0, .ref 147]))) : mj_Met g l kY_TrustDeskModel_grouped (d + 1) [.ref 99, .int x1, .int x2] M nx 0 0 (mj_E1 (some (.int (-1))) (mj_up M 99 (.inr (13, [.int 0, .int 0, .int 0, .ref 100, .ref 101, .ref 102, .ref 103, .ref 104, .ref 105, .ref 106, .ref 107, .ref 108, .ref 109, .ref 110, .int 0, .int 0, .int 0, .int 0, .int 0, .int 0, .int 0, .int (-1), .int 0, .int 0, .int 0, .ref 111, .ref 112, .int 0, .ref 113, .ref 114, .ref 115, .int 0, .int 0, .ref 116, .ref 117, .ref 118, .ref 119, .ref 120, .ref 121, .ref 122, .ref 123, .ref 124, .ref 125, .ref 126, .ref 127, .ref 128, .ref 129, .ref 130, .ref 131, .int 0, .ref 132, .int 0, .ref 133, .int 0, .ref 134, .ref 135, .ref 136, .ref 137, .ref 138, .ref 139, .ref 140, .ref 141, .ref 142, .ref 143, .ref 144, .ref 145, .ref 146, .int 0, .long 0, .int 0, .int 0, .ref 147]))) nx) := by
  refine mj_enter (by decide) (Nat.le_of_ble_eq_true rfl) ?_
  refine mv_aload_n d_TrustDeskModel_grouped_0 rfl rfl ?_
  refine mv_iconst (v := 0) d_TrustDeskModel_grouped_1 (by decide) ?_
  refine mv_put (fs' := [.int 0, .int 0, .int 0, .ref 100, .ref 101, .ref 102, .ref 103, .ref 104, .ref 105, .ref 106, .ref 107, .ref 108, .ref 109, .ref 110, .int 0, .int 0, .int 0, .int 0, .int 0, .int 0, .int 0, .int (-1), .int 0, .int 0, .int 0, .ref 111, .ref 112, .int 0, .ref 113, .ref 114, .ref 115, .int 0, .int 0, .ref 116, .ref 117, .ref 118, .ref 119, .ref 120, .ref 121, .ref 122, .ref 123, .ref 124, .ref 125, .ref 126, .ref 127, .ref 128, .ref 129, .ref 130, .ref 131, .int 0, .ref 132, .int 0, .ref 133, .int 0, .ref 134, .ref 135, .ref 136, .ref 137, .ref 138, .ref 139, .ref 140, .ref 141, .ref 142, .ref 143, .ref 144, .ref 145, .ref 146, .int 0, .long 0, .int 0, .int 0, .ref 147]) d_TrustDeskModel_grouped_2 p_TrustDeskModel_1_13 h_99 (Nat.le_of_ble_eq_true rfl) rfl rfl rfl ?_
  refine mv_aload_n d_TrustDeskModel_grouped_5 rfl rfl ?_
  refine mv_iload_n d_TrustDeskModel_grouped_6 rfl rfl ?_
  refine mv_callV_s (kc' := 0) (ks' := 0) [.int x2] [.int x2, .ref 99] d_TrustDeskModel_grouped_7 lV_TrustDeskModel_418 (mj_up_self _ _ _) rfl (c_TrustDeskModel_isFund_0 (d := d) (x1 := x2) (h_99 := (mj_up_self _ _ _))) rfl (Nat.le_of_ble_eq_true rfl) (Nat.le_of_ble_eq_true rfl) (Nat.le_of_ble_eq_true rfl) rfl ?_
  refine mv_if_eq_t (tgt := 39) d_TrustDeskModel_grouped_10 (by decide) (by decide) ?_
  refine mv_iconst (v := (-1)) d_TrustDeskModel_grouped_39 (by decide) ?_
  exact mv_iret d_TrustDeskModel_grouped_40 rfl (by first | rfl | decide) ⟨rfl, rfl, rfl⟩
abbrev kY_TrustDeskModel_lay : mj_Y := (⟨"TrustDeskModel", "lay", "(II)Z"⟩, prog_14_method_99_code, 3, (Option.some Jvm.ClassFile.FieldType.boolean))
theorem d_TrustDeskModel_lay_0 : decode kY_TrustDeskModel_lay.2.1 0 = .ok (.aload_n 0, 1) := by decide +kernel
theorem d_TrustDeskModel_lay_1 : decode kY_TrustDeskModel_lay.2.1 1 = .ok (.iconst 0, 1) := by decide +kernel
theorem d_TrustDeskModel_lay_2 : decode kY_TrustDeskModel_lay.2.1 2 = .ok (.putfield 1, 3) := by decide +kernel
theorem d_TrustDeskModel_lay_5 : decode kY_TrustDeskModel_lay.2.1 5 = .ok (.aload_n 0, 1) := by decide +kernel
theorem d_TrustDeskModel_lay_6 : decode kY_TrustDeskModel_lay.2.1 6 = .ok (.iload_n 1, 1) := by decide +kernel
theorem d_TrustDeskModel_lay_7 : decode kY_TrustDeskModel_lay.2.1 7 = .ok (.invokevirtual 418, 3) := by decide +kernel
theorem d_TrustDeskModel_lay_10 : decode kY_TrustDeskModel_lay.2.1 10 = .ok (.ifCond .eq 15, 3) := by decide +kernel
theorem d_TrustDeskModel_lay_25 : decode kY_TrustDeskModel_lay.2.1 25 = .ok (.iconst 0, 1) := by decide +kernel
theorem d_TrustDeskModel_lay_26 : decode kY_TrustDeskModel_lay.2.1 26 = .ok (.ireturn, 1) := by decide +kernel
theorem c_TrustDeskModel_lay_0 {g : mj_G} {l : Launch} {d nx : Nat} {M : mj_M} {x1 : Int32} {x2 : Int32} (h_99 : M 99 = some (.inr (13, [.int 0, .int 0, .int 0, .ref 100, .ref 101, .ref 102, .ref 103, .ref 104, .ref 105, .ref 106, .ref 107, .ref 108, .ref 109, .ref 110, .int 0, .int 0, .int 0, .int 0, .int 0, .int 0, .int 0, .int (-1), .int 0, .int 0, .int 0, .ref 111, .ref 112, .int 0, .ref 113, .ref 114, .ref 115, .int 0, .int 0, .ref 116, .ref 117, .ref 118, .ref 119, .ref 120, .ref 121, .ref 122, .ref 123, .ref 124, .ref 125, .ref 126, .ref 127, .ref 128, .ref 129, .ref 130, .ref 131, .int 0, .ref 132, .int 0, .ref 133, .int 0, .ref 134, .ref 135, .ref 136, .ref 137, .ref 138, .ref 139, .ref 140, .ref 141, .ref 142, .ref 143, .ref 144, .ref 145, .ref 146, .int 0, .long 0, .int 0, .int 0, .ref 147]))) : mj_Met g l kY_TrustDeskModel_lay (d + 1) [.ref 99, .int x1, .int x2] M nx 0 0 (mj_E1 (some (.int 0)) (mj_up M 99 (.inr (13, [.int 0, .int 0, .int 0, .ref 100, .ref 101, .ref 102, .ref 103, .ref 104, .ref 105, .ref 106, .ref 107, .ref 108, .ref 109, .ref 110, .int 0, .int 0, .int 0, .int 0, .int 0, .int 0, .int 0, .int (-1), .int 0, .int 0, .int 0, .ref 111, .ref 112, .int 0, .ref 113, .ref 114, .ref 115, .int 0, .int 0, .ref 116, .ref 117, .ref 118, .ref 119, .ref 120, .ref 121, .ref 122, .ref 123, .ref 124, .ref 125, .ref 126, .ref 127, .ref 128, .ref 129, .ref 130, .ref 131, .int 0, .ref 132, .int 0, .ref 133, .int 0, .ref 134, .ref 135, .ref 136, .ref 137, .ref 138, .ref 139, .ref 140, .ref 141, .ref 142, .ref 143, .ref 144, .ref 145, .ref 146, .int 0, .long 0, .int 0, .int 0, .ref 147]))) nx) := by
  refine mj_enter (by decide) (Nat.le_of_ble_eq_true rfl) ?_
  refine mv_aload_n d_TrustDeskModel_lay_0 rfl rfl ?_
  refine mv_iconst (v := 0) d_TrustDeskModel_lay_1 (by decide) ?_
  refine mv_put (fs' := [.int 0, .int 0, .int 0, .ref 100, .ref 101, .ref 102, .ref 103, .ref 104, .ref 105, .ref 106, .ref 107, .ref 108, .ref 109, .ref 110, .int 0, .int 0, .int 0, .int 0, .int 0, .int 0, .int 0, .int (-1), .int 0, .int 0, .int 0, .ref 111, .ref 112, .int 0, .ref 113, .ref 114, .ref 115, .int 0, .int 0, .ref 116, .ref 117, .ref 118, .ref 119, .ref 120, .ref 121, .ref 122, .ref 123, .ref 124, .ref 125, .ref 126, .ref 127, .ref 128, .ref 129, .ref 130, .ref 131, .int 0, .ref 132, .int 0, .ref 133, .int 0, .ref 134, .ref 135, .ref 136, .ref 137, .ref 138, .ref 139, .ref 140, .ref 141, .ref 142, .ref 143, .ref 144, .ref 145, .ref 146, .int 0, .long 0, .int 0, .int 0, .ref 147]) d_TrustDeskModel_lay_2 p_TrustDeskModel_1_13 h_99 (Nat.le_of_ble_eq_true rfl) rfl rfl rfl ?_
  refine mv_aload_n d_TrustDeskModel_lay_5 rfl rfl ?_
  refine mv_iload_n d_TrustDeskModel_lay_6 rfl rfl ?_
  refine mv_callV_s (kc' := 0) (ks' := 0) [.int x1] [.int x1, .ref 99] d_TrustDeskModel_lay_7 lV_TrustDeskModel_418 (mj_up_self _ _ _) rfl (c_TrustDeskModel_isFund_0 (d := d) (x1 := x1) (h_99 := (mj_up_self _ _ _))) rfl (Nat.le_of_ble_eq_true rfl) (Nat.le_of_ble_eq_true rfl) (Nat.le_of_ble_eq_true rfl) rfl ?_
  refine mv_if_eq_t (tgt := 25) d_TrustDeskModel_lay_10 (by decide) (by decide) ?_
  refine mv_iconst (v := 0) d_TrustDeskModel_lay_25 (by decide) ?_
  exact mv_iret d_TrustDeskModel_lay_26 rfl (by first | rfl | decide) ⟨rfl, rfl, rfl⟩
abbrev kY_TrustDeskModel_judge : mj_Y := (⟨"TrustDeskModel", "judge", "(I)J"⟩, prog_14_method_100_code, 2, (Option.some Jvm.ClassFile.FieldType.long))
theorem d_TrustDeskModel_judge_0 : decode kY_TrustDeskModel_judge.2.1 0 = .ok (.aload_n 0, 1) := by decide +kernel
theorem d_TrustDeskModel_judge_1 : decode kY_TrustDeskModel_judge.2.1 1 = .ok (.iconst 0, 1) := by decide +kernel
theorem d_TrustDeskModel_judge_2 : decode kY_TrustDeskModel_judge.2.1 2 = .ok (.putfield 1, 3) := by decide +kernel
theorem d_TrustDeskModel_judge_5 : decode kY_TrustDeskModel_judge.2.1 5 = .ok (.aload_n 0, 1) := by decide +kernel
theorem d_TrustDeskModel_judge_6 : decode kY_TrustDeskModel_judge.2.1 6 = .ok (.iload_n 1, 1) := by decide +kernel
theorem d_TrustDeskModel_judge_7 : decode kY_TrustDeskModel_judge.2.1 7 = .ok (.invokevirtual 581, 3) := by decide +kernel
theorem d_TrustDeskModel_judge_10 : decode kY_TrustDeskModel_judge.2.1 10 = .ok (.ifCond .ne 7, 3) := by decide +kernel
theorem d_TrustDeskModel_judge_13 : decode kY_TrustDeskModel_judge.2.1 13 = .ok (.ldc2_w 590, 3) := by decide +kernel
theorem d_TrustDeskModel_judge_16 : decode kY_TrustDeskModel_judge.2.1 16 = .ok (.lreturn, 1) := by decide +kernel
theorem c_TrustDeskModel_judge_0 {g : mj_G} {l : Launch} {d nx : Nat} {M : mj_M} {x1 : Int32} (h_99 : M 99 = some (.inr (13, [.int 0, .int 0, .int 0, .ref 100, .ref 101, .ref 102, .ref 103, .ref 104, .ref 105, .ref 106, .ref 107, .ref 108, .ref 109, .ref 110, .int 0, .int 0, .int 0, .int 0, .int 0, .int 0, .int 0, .int (-1), .int 0, .int 0, .int 0, .ref 111, .ref 112, .int 0, .ref 113, .ref 114, .ref 115, .int 0, .int 0, .ref 116, .ref 117, .ref 118, .ref 119, .ref 120, .ref 121, .ref 122, .ref 123, .ref 124, .ref 125, .ref 126, .ref 127, .ref 128, .ref 129, .ref 130, .ref 131, .int 0, .ref 132, .int 0, .ref 133, .int 0, .ref 134, .ref 135, .ref 136, .ref 137, .ref 138, .ref 139, .ref 140, .ref 141, .ref 142, .ref 143, .ref 144, .ref 145, .ref 146, .int 0, .long 0, .int 0, .int 0, .ref 147]))) : mj_Met g l kY_TrustDeskModel_judge (d + 3) [.ref 99, .int x1] M nx 0 0 (mj_E1 (some (.long (-1))) (mj_up M 99 (.inr (13, [.int 0, .int 0, .int 0, .ref 100, .ref 101, .ref 102, .ref 103, .ref 104, .ref 105, .ref 106, .ref 107, .ref 108, .ref 109, .ref 110, .int 0, .int 0, .int 0, .int 0, .int 0, .int 0, .int 0, .int (-1), .int 0, .int 0, .int 0, .ref 111, .ref 112, .int 0, .ref 113, .ref 114, .ref 115, .int 0, .int 0, .ref 116, .ref 117, .ref 118, .ref 119, .ref 120, .ref 121, .ref 122, .ref 123, .ref 124, .ref 125, .ref 126, .ref 127, .ref 128, .ref 129, .ref 130, .ref 131, .int 0, .ref 132, .int 0, .ref 133, .int 0, .ref 134, .ref 135, .ref 136, .ref 137, .ref 138, .ref 139, .ref 140, .ref 141, .ref 142, .ref 143, .ref 144, .ref 145, .ref 146, .int 0, .long 0, .int 0, .int 0, .ref 147]))) nx) := by
  refine mj_enter (by decide) (Nat.le_of_ble_eq_true rfl) ?_
  refine mv_aload_n d_TrustDeskModel_judge_0 rfl rfl ?_
  refine mv_iconst (v := 0) d_TrustDeskModel_judge_1 (by decide) ?_
  refine mv_put (fs' := [.int 0, .int 0, .int 0, .ref 100, .ref 101, .ref 102, .ref 103, .ref 104, .ref 105, .ref 106, .ref 107, .ref 108, .ref 109, .ref 110, .int 0, .int 0, .int 0, .int 0, .int 0, .int 0, .int 0, .int (-1), .int 0, .int 0, .int 0, .ref 111, .ref 112, .int 0, .ref 113, .ref 114, .ref 115, .int 0, .int 0, .ref 116, .ref 117, .ref 118, .ref 119, .ref 120, .ref 121, .ref 122, .ref 123, .ref 124, .ref 125, .ref 126, .ref 127, .ref 128, .ref 129, .ref 130, .ref 131, .int 0, .ref 132, .int 0, .ref 133, .int 0, .ref 134, .ref 135, .ref 136, .ref 137, .ref 138, .ref 139, .ref 140, .ref 141, .ref 142, .ref 143, .ref 144, .ref 145, .ref 146, .int 0, .long 0, .int 0, .int 0, .ref 147]) d_TrustDeskModel_judge_2 p_TrustDeskModel_1_13 h_99 (Nat.le_of_ble_eq_true rfl) rfl rfl rfl ?_
  refine mv_aload_n d_TrustDeskModel_judge_5 rfl rfl ?_
  refine mv_iload_n d_TrustDeskModel_judge_6 rfl rfl ?_
  refine mv_callV_s (kc' := 0) (ks' := 0) [.int x1] [.int x1, .ref 99] d_TrustDeskModel_judge_7 lV_TrustDeskModel_581 (mj_up_self _ _ _) rfl (c_TrustDeskModel_areAsked_0 (d := d) (x1 := x1) (h_99 := (mj_up_self _ _ _))) rfl (Nat.le_of_ble_eq_true rfl) (Nat.le_of_ble_eq_true rfl) (Nat.le_of_ble_eq_true rfl) rfl ?_
  refine mv_if_ne_f (tgt := 17) d_TrustDeskModel_judge_10 (by decide) (by decide) ?_
  refine mv_ldc2 d_TrustDeskModel_judge_13 k_TrustDeskModel_590 ?_
  exact mv_lret d_TrustDeskModel_judge_16 rfl ⟨rfl, rfl, rfl⟩
abbrev kY_TrustDeskModel_account : mj_Y := (⟨"TrustDeskModel", "account", "(II)I"⟩, prog_14_method_101_code, 4, (Option.some Jvm.ClassFile.FieldType.int))
theorem d_TrustDeskModel_account_0 : decode kY_TrustDeskModel_account.2.1 0 = .ok (.aload_n 0, 1) := by decide +kernel
theorem d_TrustDeskModel_account_1 : decode kY_TrustDeskModel_account.2.1 1 = .ok (.iconst 0, 1) := by decide +kernel
theorem d_TrustDeskModel_account_2 : decode kY_TrustDeskModel_account.2.1 2 = .ok (.putfield 1, 3) := by decide +kernel
theorem d_TrustDeskModel_account_5 : decode kY_TrustDeskModel_account.2.1 5 = .ok (.aload_n 0, 1) := by decide +kernel
theorem d_TrustDeskModel_account_6 : decode kY_TrustDeskModel_account.2.1 6 = .ok (.iload_n 1, 1) := by decide +kernel
theorem d_TrustDeskModel_account_7 : decode kY_TrustDeskModel_account.2.1 7 = .ok (.invokevirtual 418, 3) := by decide +kernel
theorem d_TrustDeskModel_account_10 : decode kY_TrustDeskModel_account.2.1 10 = .ok (.ifCond .eq 48, 3) := by decide +kernel
theorem d_TrustDeskModel_account_58 : decode kY_TrustDeskModel_account.2.1 58 = .ok (.iconst (-1), 1) := by decide +kernel
theorem d_TrustDeskModel_account_59 : decode kY_TrustDeskModel_account.2.1 59 = .ok (.ireturn, 1) := by decide +kernel
theorem c_TrustDeskModel_account_0 {g : mj_G} {l : Launch} {d nx : Nat} {M : mj_M} {x1 : Int32} {x2 : Int32} (h_99 : M 99 = some (.inr (13, [.int 0, .int 0, .int 0, .ref 100, .ref 101, .ref 102, .ref 103, .ref 104, .ref 105, .ref 106, .ref 107, .ref 108, .ref 109, .ref 110, .int 0, .int 0, .int 0, .int 0, .int 0, .int 0, .int 0, .int (-1), .int 0, .int 0, .int 0, .ref 111, .ref 112, .int 0, .ref 113, .ref 114, .ref 115, .int 0, .int 0, .ref 116, .ref 117, .ref 118, .ref 119, .ref 120, .ref 121, .ref 122, .ref 123, .ref 124, .ref 125, .ref 126, .ref 127, .ref 128, .ref 129, .ref 130, .ref 131, .int 0, .ref 132, .int 0, .ref 133, .int 0, .ref 134, .ref 135, .ref 136, .ref 137, .ref 138, .ref 139, .ref 140, .ref 141, .ref 142, .ref 143, .ref 144, .ref 145, .ref 146, .int 0, .long 0, .int 0, .int 0, .ref 147]))) : mj_Met g l kY_TrustDeskModel_account (d + 1) [.ref 99, .int x1, .int x2] M nx 0 0 (mj_E1 (some (.int (-1))) (mj_up M 99 (.inr (13, [.int 0, .int 0, .int 0, .ref 100, .ref 101, .ref 102, .ref 103, .ref 104, .ref 105, .ref 106, .ref 107, .ref 108, .ref 109, .ref 110, .int 0, .int 0, .int 0, .int 0, .int 0, .int 0, .int 0, .int (-1), .int 0, .int 0, .int 0, .ref 111, .ref 112, .int 0, .ref 113, .ref 114, .ref 115, .int 0, .int 0, .ref 116, .ref 117, .ref 118, .ref 119, .ref 120, .ref 121, .ref 122, .ref 123, .ref 124, .ref 125, .ref 126, .ref 127, .ref 128, .ref 129, .ref 130, .ref 131, .int 0, .ref 132, .int 0, .ref 133, .int 0, .ref 134, .ref 135, .ref 136, .ref 137, .ref 138, .ref 139, .ref 140, .ref 141, .ref 142, .ref 143, .ref 144, .ref 145, .ref 146, .int 0, .long 0, .int 0, .int 0, .ref 147]))) nx) := by
  refine mj_enter (by decide) (Nat.le_of_ble_eq_true rfl) ?_
  refine mv_aload_n d_TrustDeskModel_account_0 rfl rfl ?_
  refine mv_iconst (v := 0) d_TrustDeskModel_account_1 (by decide) ?_
  refine mv_put (fs' := [.int 0, .int 0, .int 0, .ref 100, .ref 101, .ref 102, .ref 103, .ref 104, .ref 105, .ref 106, .ref 107, .ref 108, .ref 109, .ref 110, .int 0, .int 0, .int 0, .int 0, .int 0, .int 0, .int 0, .int (-1), .int 0, .int 0, .int 0, .ref 111, .ref 112, .int 0, .ref 113, .ref 114, .ref 115, .int 0, .int 0, .ref 116, .ref 117, .ref 118, .ref 119, .ref 120, .ref 121, .ref 122, .ref 123, .ref 124, .ref 125, .ref 126, .ref 127, .ref 128, .ref 129, .ref 130, .ref 131, .int 0, .ref 132, .int 0, .ref 133, .int 0, .ref 134, .ref 135, .ref 136, .ref 137, .ref 138, .ref 139, .ref 140, .ref 141, .ref 142, .ref 143, .ref 144, .ref 145, .ref 146, .int 0, .long 0, .int 0, .int 0, .ref 147]) d_TrustDeskModel_account_2 p_TrustDeskModel_1_13 h_99 (Nat.le_of_ble_eq_true rfl) rfl rfl rfl ?_
  refine mv_aload_n d_TrustDeskModel_account_5 rfl rfl ?_
  refine mv_iload_n d_TrustDeskModel_account_6 rfl rfl ?_
  refine mv_callV_s (kc' := 0) (ks' := 0) [.int x1] [.int x1, .ref 99] d_TrustDeskModel_account_7 lV_TrustDeskModel_418 (mj_up_self _ _ _) rfl (c_TrustDeskModel_isFund_0 (d := d) (x1 := x1) (h_99 := (mj_up_self _ _ _))) rfl (Nat.le_of_ble_eq_true rfl) (Nat.le_of_ble_eq_true rfl) (Nat.le_of_ble_eq_true rfl) rfl ?_
  refine mv_if_eq_t (tgt := 58) d_TrustDeskModel_account_10 (by decide) (by decide) ?_
  refine mv_iconst (v := (-1)) d_TrustDeskModel_account_58 (by decide) ?_
  exact mv_iret d_TrustDeskModel_account_59 rfl (by first | rfl | decide) ⟨rfl, rfl, rfl⟩
abbrev kY_TrustDeskModel_count : mj_Y := (⟨"TrustDeskModel", "count", "(I)I"⟩, prog_14_method_111_code, 2, (Option.some Jvm.ClassFile.FieldType.int))
theorem d_TrustDeskModel_count_0 : decode kY_TrustDeskModel_count.2.1 0 = .ok (.aload_n 0, 1) := by decide +kernel
theorem d_TrustDeskModel_count_1 : decode kY_TrustDeskModel_count.2.1 1 = .ok (.iconst 0, 1) := by decide +kernel
theorem d_TrustDeskModel_count_2 : decode kY_TrustDeskModel_count.2.1 2 = .ok (.putfield 1, 3) := by decide +kernel
theorem d_TrustDeskModel_count_5 : decode kY_TrustDeskModel_count.2.1 5 = .ok (.iload_n 1, 1) := by decide +kernel
theorem d_TrustDeskModel_count_6 : decode kY_TrustDeskModel_count.2.1 6 = .ok (.tableswitch 122 0 11 #[62, 67, 72, 77, 82, 87, 92, 97, 102, 107, 112, 117], 62) := by decide +kernel
theorem d_TrustDeskModel_count_128 : decode kY_TrustDeskModel_count.2.1 128 = .ok (.iconst (-1), 1) := by decide +kernel
theorem d_TrustDeskModel_count_129 : decode kY_TrustDeskModel_count.2.1 129 = .ok (.ireturn, 1) := by decide +kernel
theorem d_TrustDeskModel_count_68 : decode kY_TrustDeskModel_count.2.1 68 = .ok (.aload_n 0, 1) := by decide +kernel
theorem d_TrustDeskModel_count_69 : decode kY_TrustDeskModel_count.2.1 69 = .ok (.getfield 164, 3) := by decide +kernel
theorem d_TrustDeskModel_count_72 : decode kY_TrustDeskModel_count.2.1 72 = .ok (.ireturn, 1) := by decide +kernel
theorem d_TrustDeskModel_count_73 : decode kY_TrustDeskModel_count.2.1 73 = .ok (.aload_n 0, 1) := by decide +kernel
theorem d_TrustDeskModel_count_74 : decode kY_TrustDeskModel_count.2.1 74 = .ok (.invokevirtual 518, 3) := by decide +kernel
abbrev kY_TrustDeskModel_year : mj_Y := (⟨"TrustDeskModel", "year", "()I"⟩, prog_14_method_5_code, 1, (Option.some Jvm.ClassFile.FieldType.int))
theorem lV_TrustDeskModel_518 : mj_lV "TrustDeskModel" 518 kY_TrustDeskModel_year 0 := ⟨⟨(mj_in1 (List.mem_of_getElem? (i := 1969) (by decide +kernel)) rfl), (mj_in1 (List.mem_of_getElem? (i := 10) (by decide +kernel)) rfl), (mj_in1 (List.mem_of_getElem? (i := 1972) (by decide +kernel)) rfl), by decide, rfl, by decide⟩, (mj_in1 (List.mem_of_getElem? (i := 1971) (by decide +kernel)) rfl), (mj_in (List.mem_append_left _ (List.mem_of_getElem? (i := 131) (by decide +kernel))) rfl)⟩
theorem d_TrustDeskModel_year_0 : decode kY_TrustDeskModel_year.2.1 0 = .ok (.aload_n 0, 1) := by decide +kernel
theorem d_TrustDeskModel_year_1 : decode kY_TrustDeskModel_year.2.1 1 = .ok (.getfield 164, 3) := by decide +kernel
theorem d_TrustDeskModel_year_4 : decode kY_TrustDeskModel_year.2.1 4 = .ok (.sipush 360, 3) := by decide +kernel
theorem d_TrustDeskModel_year_7 : decode kY_TrustDeskModel_year.2.1 7 = .ok (.idiv, 1) := by decide +kernel
theorem d_TrustDeskModel_year_8 : decode kY_TrustDeskModel_year.2.1 8 = .ok (.ireturn, 1) := by decide +kernel
theorem c_TrustDeskModel_year_0 {g : mj_G} {l : Launch} {d nx : Nat} {M : mj_M} (h_99 : M 99 = some (.inr (13, [.int 0, .int 0, .int 0, .ref 100, .ref 101, .ref 102, .ref 103, .ref 104, .ref 105, .ref 106, .ref 107, .ref 108, .ref 109, .ref 110, .int 0, .int 0, .int 0, .int 0, .int 0, .int 0, .int 0, .int (-1), .int 0, .int 0, .int 0, .ref 111, .ref 112, .int 0, .ref 113, .ref 114, .ref 115, .int 0, .int 0, .ref 116, .ref 117, .ref 118, .ref 119, .ref 120, .ref 121, .ref 122, .ref 123, .ref 124, .ref 125, .ref 126, .ref 127, .ref 128, .ref 129, .ref 130, .ref 131, .int 0, .ref 132, .int 0, .ref 133, .int 0, .ref 134, .ref 135, .ref 136, .ref 137, .ref 138, .ref 139, .ref 140, .ref 141, .ref 142, .ref 143, .ref 144, .ref 145, .ref 146, .int 0, .long 0, .int 0, .int 0, .ref 147]))) : mj_Met g l kY_TrustDeskModel_year d [.ref 99] M nx 0 0 (mj_E1 (some (.int 0)) M nx) := by
  refine mj_enter (by decide) (Nat.le_of_ble_eq_true rfl) ?_
  refine mv_aload_n d_TrustDeskModel_year_0 rfl rfl ?_
  refine mv_get d_TrustDeskModel_year_1 f_TrustDeskModel_164_13 h_99 rfl ?_
  refine mv_sipush (v := 360) d_TrustDeskModel_year_4 (by decide) ?_
  refine mv_idivv (v := 0) d_TrustDeskModel_year_7 (by decide) (by decide) ?_
  exact mv_iret d_TrustDeskModel_year_8 rfl (by first | rfl | decide) ⟨rfl, rfl, rfl⟩
theorem d_TrustDeskModel_count_77 : decode kY_TrustDeskModel_count.2.1 77 = .ok (.ireturn, 1) := by decide +kernel
theorem d_TrustDeskModel_count_78 : decode kY_TrustDeskModel_count.2.1 78 = .ok (.aload_n 0, 1) := by decide +kernel
theorem d_TrustDeskModel_count_79 : decode kY_TrustDeskModel_count.2.1 79 = .ok (.getfield 179, 3) := by decide +kernel
theorem d_TrustDeskModel_count_82 : decode kY_TrustDeskModel_count.2.1 82 = .ok (.ireturn, 1) := by decide +kernel
theorem d_TrustDeskModel_count_83 : decode kY_TrustDeskModel_count.2.1 83 = .ok (.aload_n 0, 1) := by decide +kernel
theorem d_TrustDeskModel_count_84 : decode kY_TrustDeskModel_count.2.1 84 = .ok (.getfield 378, 3) := by decide +kernel
theorem d_TrustDeskModel_count_87 : decode kY_TrustDeskModel_count.2.1 87 = .ok (.ireturn, 1) := by decide +kernel
theorem d_TrustDeskModel_count_88 : decode kY_TrustDeskModel_count.2.1 88 = .ok (.aload_n 0, 1) := by decide +kernel
theorem d_TrustDeskModel_count_89 : decode kY_TrustDeskModel_count.2.1 89 = .ok (.getfield 415, 3) := by decide +kernel
theorem d_TrustDeskModel_count_92 : decode kY_TrustDeskModel_count.2.1 92 = .ok (.ireturn, 1) := by decide +kernel
theorem d_TrustDeskModel_count_93 : decode kY_TrustDeskModel_count.2.1 93 = .ok (.aload_n 0, 1) := by decide +kernel
theorem d_TrustDeskModel_count_94 : decode kY_TrustDeskModel_count.2.1 94 = .ok (.getfield 435, 3) := by decide +kernel
theorem d_TrustDeskModel_count_97 : decode kY_TrustDeskModel_count.2.1 97 = .ok (.ireturn, 1) := by decide +kernel
theorem d_TrustDeskModel_count_98 : decode kY_TrustDeskModel_count.2.1 98 = .ok (.aload_n 0, 1) := by decide +kernel
theorem d_TrustDeskModel_count_99 : decode kY_TrustDeskModel_count.2.1 99 = .ok (.getfield 501, 3) := by decide +kernel
theorem d_TrustDeskModel_count_102 : decode kY_TrustDeskModel_count.2.1 102 = .ok (.ireturn, 1) := by decide +kernel
theorem d_TrustDeskModel_count_103 : decode kY_TrustDeskModel_count.2.1 103 = .ok (.aload_n 0, 1) := by decide +kernel
theorem d_TrustDeskModel_count_104 : decode kY_TrustDeskModel_count.2.1 104 = .ok (.getfield 474, 3) := by decide +kernel
theorem d_TrustDeskModel_count_107 : decode kY_TrustDeskModel_count.2.1 107 = .ok (.ireturn, 1) := by decide +kernel
theorem d_TrustDeskModel_count_108 : decode kY_TrustDeskModel_count.2.1 108 = .ok (.aload_n 0, 1) := by decide +kernel
theorem d_TrustDeskModel_count_109 : decode kY_TrustDeskModel_count.2.1 109 = .ok (.getfield 189, 3) := by decide +kernel
theorem d_TrustDeskModel_count_112 : decode kY_TrustDeskModel_count.2.1 112 = .ok (.ireturn, 1) := by decide +kernel
theorem d_TrustDeskModel_count_113 : decode kY_TrustDeskModel_count.2.1 113 = .ok (.aload_n 0, 1) := by decide +kernel
theorem d_TrustDeskModel_count_114 : decode kY_TrustDeskModel_count.2.1 114 = .ok (.getfield 592, 3) := by decide +kernel
theorem f_TrustDeskModel_592_13 : mj_fl "TrustDeskModel" 592 13 70 := ⟨kR_TrustDeskModel, kF_TrustDeskModel, 72, "TrustDeskModel", rfl, kg_13, by decide, (mj_in1 (List.mem_of_getElem? (i := 1460) (by decide +kernel)) rfl), Or.inl rfl⟩
theorem d_TrustDeskModel_count_117 : decode kY_TrustDeskModel_count.2.1 117 = .ok (.ireturn, 1) := by decide +kernel
theorem d_TrustDeskModel_count_118 : decode kY_TrustDeskModel_count.2.1 118 = .ok (.aload_n 0, 1) := by decide +kernel
theorem d_TrustDeskModel_count_119 : decode kY_TrustDeskModel_count.2.1 119 = .ok (.invokevirtual 597, 3) := by decide +kernel
abbrev kY_TrustDeskModel_made : mj_Y := (⟨"TrustDeskModel", "made", "()I"⟩, prog_14_method_109_code, 3, (Option.some Jvm.ClassFile.FieldType.int))
theorem lV_TrustDeskModel_597 : mj_lV "TrustDeskModel" 597 kY_TrustDeskModel_made 0 := ⟨⟨(mj_in1 (List.mem_of_getElem? (i := 2090) (by decide +kernel)) rfl), (mj_in1 (List.mem_of_getElem? (i := 10) (by decide +kernel)) rfl), (mj_in1 (List.mem_of_getElem? (i := 2093) (by decide +kernel)) rfl), by decide, rfl, by decide⟩, (mj_in1 (List.mem_of_getElem? (i := 2092) (by decide +kernel)) rfl), (mj_in (List.mem_append_left _ (List.mem_of_getElem? (i := 143) (by decide +kernel))) rfl)⟩
theorem d_TrustDeskModel_made_0 : decode kY_TrustDeskModel_made.2.1 0 = .ok (.iconst 0, 1) := by decide +kernel
theorem d_TrustDeskModel_made_1 : decode kY_TrustDeskModel_made.2.1 1 = .ok (.istore_n 1, 1) := by decide +kernel
theorem d_TrustDeskModel_made_2 : decode kY_TrustDeskModel_made.2.1 2 = .ok (.iconst 0, 1) := by decide +kernel
theorem d_TrustDeskModel_made_3 : decode kY_TrustDeskModel_made.2.1 3 = .ok (.istore_n 2, 1) := by decide +kernel
theorem d_TrustDeskModel_made_4 : decode kY_TrustDeskModel_made.2.1 4 = .ok (.iload_n 2, 1) := by decide +kernel
theorem d_TrustDeskModel_made_5 : decode kY_TrustDeskModel_made.2.1 5 = .ok (.aload_n 0, 1) := by decide +kernel
theorem d_TrustDeskModel_made_6 : decode kY_TrustDeskModel_made.2.1 6 = .ok (.getfield 501, 3) := by decide +kernel
theorem d_TrustDeskModel_made_9 : decode kY_TrustDeskModel_made.2.1 9 = .ok (.if_icmp .ge 22, 3) := by decide +kernel
theorem d_TrustDeskModel_made_31 : decode kY_TrustDeskModel_made.2.1 31 = .ok (.iload_n 1, 1) := by decide +kernel
theorem d_TrustDeskModel_made_32 : decode kY_TrustDeskModel_made.2.1 32 = .ok (.ireturn, 1) := by decide +kernel
theorem c_TrustDeskModel_made_0 {g : mj_G} {l : Launch} {d nx : Nat} {M : mj_M} (h_99 : M 99 = some (.inr (13, [.int 0, .int 0, .int 0, .ref 100, .ref 101, .ref 102, .ref 103, .ref 104, .ref 105, .ref 106, .ref 107, .ref 108, .ref 109, .ref 110, .int 0, .int 0, .int 0, .int 0, .int 0, .int 0, .int 0, .int (-1), .int 0, .int 0, .int 0, .ref 111, .ref 112, .int 0, .ref 113, .ref 114, .ref 115, .int 0, .int 0, .ref 116, .ref 117, .ref 118, .ref 119, .ref 120, .ref 121, .ref 122, .ref 123, .ref 124, .ref 125, .ref 126, .ref 127, .ref 128, .ref 129, .ref 130, .ref 131, .int 0, .ref 132, .int 0, .ref 133, .int 0, .ref 134, .ref 135, .ref 136, .ref 137, .ref 138, .ref 139, .ref 140, .ref 141, .ref 142, .ref 143, .ref 144, .ref 145, .ref 146, .int 0, .long 0, .int 0, .int 0, .ref 147]))) : mj_Met g l kY_TrustDeskModel_made d [.ref 99] M nx 0 0 (mj_E1 (some (.int 0)) M nx) := by
  refine mj_enter (by decide) (Nat.le_of_ble_eq_true rfl) ?_
  refine mv_iconst (v := 0) d_TrustDeskModel_made_0 (by decide) ?_
  refine mv_istore_n (lv' := [(1, .int 0), (0, .ref 99)]) d_TrustDeskModel_made_1 rfl (by decide) rfl ?_
  refine mv_iconst (v := 0) d_TrustDeskModel_made_2 (by decide) ?_
  refine mv_istore_n (lv' := [(2, .int 0), (1, .int 0), (0, .ref 99)]) d_TrustDeskModel_made_3 rfl (by decide) rfl ?_
  refine mv_iload_n d_TrustDeskModel_made_4 rfl rfl ?_
  refine mv_aload_n d_TrustDeskModel_made_5 rfl rfl ?_
  refine mv_get d_TrustDeskModel_made_6 f_TrustDeskModel_501_13 h_99 rfl ?_
  refine mv_icmp_ge_t (tgt := 31) d_TrustDeskModel_made_9 (by decide) (by decide) ?_
  refine mv_iload_n d_TrustDeskModel_made_31 rfl rfl ?_
  exact mv_iret d_TrustDeskModel_made_32 rfl (by first | rfl | decide) ⟨rfl, rfl, rfl⟩
theorem d_TrustDeskModel_count_122 : decode kY_TrustDeskModel_count.2.1 122 = .ok (.ireturn, 1) := by decide +kernel
theorem d_TrustDeskModel_count_123 : decode kY_TrustDeskModel_count.2.1 123 = .ok (.aload_n 0, 1) := by decide +kernel
theorem d_TrustDeskModel_count_124 : decode kY_TrustDeskModel_count.2.1 124 = .ok (.invokevirtual 600, 3) := by decide +kernel
abbrev kY_TrustDeskModel_free : mj_Y := (⟨"TrustDeskModel", "free", "()I"⟩, prog_14_method_110_code, 3, (Option.some Jvm.ClassFile.FieldType.int))
theorem lV_TrustDeskModel_600 : mj_lV "TrustDeskModel" 600 kY_TrustDeskModel_free 0 := ⟨⟨(mj_in1 (List.mem_of_getElem? (i := 2094) (by decide +kernel)) rfl), (mj_in1 (List.mem_of_getElem? (i := 10) (by decide +kernel)) rfl), (mj_in1 (List.mem_of_getElem? (i := 2097) (by decide +kernel)) rfl), by decide, rfl, by decide⟩, (mj_in1 (List.mem_of_getElem? (i := 2096) (by decide +kernel)) rfl), (mj_in (List.mem_append_left _ (List.mem_of_getElem? (i := 144) (by decide +kernel))) rfl)⟩
theorem d_TrustDeskModel_free_0 : decode kY_TrustDeskModel_free.2.1 0 = .ok (.iconst 0, 1) := by decide +kernel
theorem d_TrustDeskModel_free_1 : decode kY_TrustDeskModel_free.2.1 1 = .ok (.istore_n 1, 1) := by decide +kernel
theorem d_TrustDeskModel_free_2 : decode kY_TrustDeskModel_free.2.1 2 = .ok (.iconst 0, 1) := by decide +kernel
theorem d_TrustDeskModel_free_3 : decode kY_TrustDeskModel_free.2.1 3 = .ok (.istore_n 2, 1) := by decide +kernel
theorem d_TrustDeskModel_free_4 : decode kY_TrustDeskModel_free.2.1 4 = .ok (.iload_n 2, 1) := by decide +kernel
theorem d_TrustDeskModel_free_5 : decode kY_TrustDeskModel_free.2.1 5 = .ok (.aload_n 0, 1) := by decide +kernel
theorem d_TrustDeskModel_free_6 : decode kY_TrustDeskModel_free.2.1 6 = .ok (.getfield 415, 3) := by decide +kernel
theorem d_TrustDeskModel_free_9 : decode kY_TrustDeskModel_free.2.1 9 = .ok (.if_icmp .ge 22, 3) := by decide +kernel
theorem d_TrustDeskModel_free_31 : decode kY_TrustDeskModel_free.2.1 31 = .ok (.iload_n 1, 1) := by decide +kernel
theorem d_TrustDeskModel_free_32 : decode kY_TrustDeskModel_free.2.1 32 = .ok (.ireturn, 1) := by decide +kernel
theorem c_TrustDeskModel_free_0 {g : mj_G} {l : Launch} {d nx : Nat} {M : mj_M} (h_99 : M 99 = some (.inr (13, [.int 0, .int 0, .int 0, .ref 100, .ref 101, .ref 102, .ref 103, .ref 104, .ref 105, .ref 106, .ref 107, .ref 108, .ref 109, .ref 110, .int 0, .int 0, .int 0, .int 0, .int 0, .int 0, .int 0, .int (-1), .int 0, .int 0, .int 0, .ref 111, .ref 112, .int 0, .ref 113, .ref 114, .ref 115, .int 0, .int 0, .ref 116, .ref 117, .ref 118, .ref 119, .ref 120, .ref 121, .ref 122, .ref 123, .ref 124, .ref 125, .ref 126, .ref 127, .ref 128, .ref 129, .ref 130, .ref 131, .int 0, .ref 132, .int 0, .ref 133, .int 0, .ref 134, .ref 135, .ref 136, .ref 137, .ref 138, .ref 139, .ref 140, .ref 141, .ref 142, .ref 143, .ref 144, .ref 145, .ref 146, .int 0, .long 0, .int 0, .int 0, .ref 147]))) : mj_Met g l kY_TrustDeskModel_free d [.ref 99] M nx 0 0 (mj_E1 (some (.int 0)) M nx) := by
  refine mj_enter (by decide) (Nat.le_of_ble_eq_true rfl) ?_
  refine mv_iconst (v := 0) d_TrustDeskModel_free_0 (by decide) ?_
  refine mv_istore_n (lv' := [(1, .int 0), (0, .ref 99)]) d_TrustDeskModel_free_1 rfl (by decide) rfl ?_
  refine mv_iconst (v := 0) d_TrustDeskModel_free_2 (by decide) ?_
  refine mv_istore_n (lv' := [(2, .int 0), (1, .int 0), (0, .ref 99)]) d_TrustDeskModel_free_3 rfl (by decide) rfl ?_
  refine mv_iload_n d_TrustDeskModel_free_4 rfl rfl ?_
  refine mv_aload_n d_TrustDeskModel_free_5 rfl rfl ?_
  refine mv_get d_TrustDeskModel_free_6 f_TrustDeskModel_415_13 h_99 rfl ?_
  refine mv_icmp_ge_t (tgt := 31) d_TrustDeskModel_free_9 (by decide) (by decide) ?_
  refine mv_iload_n d_TrustDeskModel_free_31 rfl rfl ?_
  exact mv_iret d_TrustDeskModel_free_32 rfl (by first | rfl | decide) ⟨rfl, rfl, rfl⟩
theorem d_TrustDeskModel_count_127 : decode kY_TrustDeskModel_count.2.1 127 = .ok (.ireturn, 1) := by decide +kernel
theorem c_TrustDeskModel_count_0 {g : mj_G} {l : Launch} {d nx : Nat} {M : mj_M} {x1 : Int32} (h_99 : M 99 = some (.inr (13, [.int 0, .int 0, .int 0, .ref 100, .ref 101, .ref 102, .ref 103, .ref 104, .ref 105, .ref 106, .ref 107, .ref 108, .ref 109, .ref 110, .int 0, .int 0, .int 0, .int 0, .int 0, .int 0, .int 0, .int (-1), .int 0, .int 0, .int 0, .ref 111, .ref 112, .int 0, .ref 113, .ref 114, .ref 115, .int 0, .int 0, .ref 116, .ref 117, .ref 118, .ref 119, .ref 120, .ref 121, .ref 122, .ref 123, .ref 124, .ref 125, .ref 126, .ref 127, .ref 128, .ref 129, .ref 130, .ref 131, .int 0, .ref 132, .int 0, .ref 133, .int 0, .ref 134, .ref 135, .ref 136, .ref 137, .ref 138, .ref 139, .ref 140, .ref 141, .ref 142, .ref 143, .ref 144, .ref 145, .ref 146, .int 0, .long 0, .int 0, .int 0, .ref 147]))) : mj_Met g l kY_TrustDeskModel_count (d + 1) [.ref 99, .int x1] M nx 0 0 (mj_KP (some (.int (e_count x1))) M 0 0) := by
  refine mj_enter (by decide) (Nat.le_of_ble_eq_true rfl) ?_
  refine mv_aload_n d_TrustDeskModel_count_0 rfl rfl ?_
  refine mv_iconst (v := 0) d_TrustDeskModel_count_1 (by decide) ?_
  refine mv_put (fs' := [.int 0, .int 0, .int 0, .ref 100, .ref 101, .ref 102, .ref 103, .ref 104, .ref 105, .ref 106, .ref 107, .ref 108, .ref 109, .ref 110, .int 0, .int 0, .int 0, .int 0, .int 0, .int 0, .int 0, .int (-1), .int 0, .int 0, .int 0, .ref 111, .ref 112, .int 0, .ref 113, .ref 114, .ref 115, .int 0, .int 0, .ref 116, .ref 117, .ref 118, .ref 119, .ref 120, .ref 121, .ref 122, .ref 123, .ref 124, .ref 125, .ref 126, .ref 127, .ref 128, .ref 129, .ref 130, .ref 131, .int 0, .ref 132, .int 0, .ref 133, .int 0, .ref 134, .ref 135, .ref 136, .ref 137, .ref 138, .ref 139, .ref 140, .ref 141, .ref 142, .ref 143, .ref 144, .ref 145, .ref 146, .int 0, .long 0, .int 0, .int 0, .ref 147]) d_TrustDeskModel_count_2 p_TrustDeskModel_1_13 h_99 (Nat.le_of_ble_eq_true rfl) rfl rfl rfl ?_
  refine mv_iload_n d_TrustDeskModel_count_5 rfl rfl ?_
  rcases (show (x1.toInt < 0 ∨ 11 < x1.toInt) ∨ x1.toInt = 0 ∨ x1.toInt = 1 ∨ x1.toInt = 2 ∨ x1.toInt = 3 ∨ x1.toInt = 4 ∨ x1.toInt = 5 ∨ x1.toInt = 6 ∨ x1.toInt = 7 ∨ x1.toInt = 8 ∨ x1.toInt = 9 ∨ x1.toInt = 10 ∨ x1.toInt = 11 by omega) with b1 | b1 | b1 | b1 | b1 | b1 | b1 | b1 | b1 | b1 | b1 | b1 | b1
  · refine mv_tableOut (tgt := 128) d_TrustDeskModel_count_6 b1 (by decide) ?_
    refine mv_iconst (v := (-1)) d_TrustDeskModel_count_128 (by decide) ?_
    exact mv_iret d_TrustDeskModel_count_129 rfl (by first | rfl | decide) ⟨(by unfold e_count; first | rw [if_pos (by omega)] | rw [if_neg (by omega)]), fun a ha1 ha2 => (mj_up_ne _ _ (show a ≠ 99 by omega)).trans (rfl)⟩
  · refine mv_tableIn (tgt := 68) (off := 62) d_TrustDeskModel_count_6 (by omega) (by omega) (by rw [b1]; rfl) (by decide) ?_
    refine mv_aload_n d_TrustDeskModel_count_68 rfl rfl ?_
    refine mv_get d_TrustDeskModel_count_69 f_TrustDeskModel_164_13 (mj_up_self _ _ _) rfl ?_
    exact mv_iret d_TrustDeskModel_count_72 rfl (by first | rfl | decide) ⟨(by unfold e_count; first | rw [if_pos (by omega)] | rw [if_neg (by omega)]), fun a ha1 ha2 => (mj_up_ne _ _ (show a ≠ 99 by omega)).trans (rfl)⟩
  · refine mv_tableIn (tgt := 73) (off := 67) d_TrustDeskModel_count_6 (by omega) (by omega) (by rw [b1]; rfl) (by decide) ?_
    refine mv_aload_n d_TrustDeskModel_count_73 rfl rfl ?_
    refine mv_callV_s (kc' := 0) (ks' := 0) [] [.ref 99] d_TrustDeskModel_count_74 lV_TrustDeskModel_518 (mj_up_self _ _ _) rfl (c_TrustDeskModel_year_0 (d := d) (h_99 := (mj_up_self _ _ _))) rfl (Nat.le_of_ble_eq_true rfl) (Nat.le_of_ble_eq_true rfl) (Nat.le_of_ble_eq_true rfl) rfl ?_
    exact mv_iret d_TrustDeskModel_count_77 rfl (by first | rfl | decide) ⟨(by unfold e_count; first | rw [if_pos (by omega)] | rw [if_neg (by omega)]), fun a ha1 ha2 => (mj_up_ne _ _ (show a ≠ 99 by omega)).trans (rfl)⟩
  · refine mv_tableIn (tgt := 78) (off := 72) d_TrustDeskModel_count_6 (by omega) (by omega) (by rw [b1]; rfl) (by decide) ?_
    refine mv_aload_n d_TrustDeskModel_count_78 rfl rfl ?_
    refine mv_get d_TrustDeskModel_count_79 f_TrustDeskModel_179_13 (mj_up_self _ _ _) rfl ?_
    exact mv_iret d_TrustDeskModel_count_82 rfl (by first | rfl | decide) ⟨(by unfold e_count; first | rw [if_pos (by omega)] | rw [if_neg (by omega)]), fun a ha1 ha2 => (mj_up_ne _ _ (show a ≠ 99 by omega)).trans (rfl)⟩
  · refine mv_tableIn (tgt := 83) (off := 77) d_TrustDeskModel_count_6 (by omega) (by omega) (by rw [b1]; rfl) (by decide) ?_
    refine mv_aload_n d_TrustDeskModel_count_83 rfl rfl ?_
    refine mv_get d_TrustDeskModel_count_84 f_TrustDeskModel_378_13 (mj_up_self _ _ _) rfl ?_
    exact mv_iret d_TrustDeskModel_count_87 rfl (by first | rfl | decide) ⟨(by unfold e_count; first | rw [if_pos (by omega)] | rw [if_neg (by omega)]), fun a ha1 ha2 => (mj_up_ne _ _ (show a ≠ 99 by omega)).trans (rfl)⟩
  · refine mv_tableIn (tgt := 88) (off := 82) d_TrustDeskModel_count_6 (by omega) (by omega) (by rw [b1]; rfl) (by decide) ?_
    refine mv_aload_n d_TrustDeskModel_count_88 rfl rfl ?_
    refine mv_get d_TrustDeskModel_count_89 f_TrustDeskModel_415_13 (mj_up_self _ _ _) rfl ?_
    exact mv_iret d_TrustDeskModel_count_92 rfl (by first | rfl | decide) ⟨(by unfold e_count; first | rw [if_pos (by omega)] | rw [if_neg (by omega)]), fun a ha1 ha2 => (mj_up_ne _ _ (show a ≠ 99 by omega)).trans (rfl)⟩
  · refine mv_tableIn (tgt := 93) (off := 87) d_TrustDeskModel_count_6 (by omega) (by omega) (by rw [b1]; rfl) (by decide) ?_
    refine mv_aload_n d_TrustDeskModel_count_93 rfl rfl ?_
    refine mv_get d_TrustDeskModel_count_94 f_TrustDeskModel_435_13 (mj_up_self _ _ _) rfl ?_
    exact mv_iret d_TrustDeskModel_count_97 rfl (by first | rfl | decide) ⟨(by unfold e_count; first | rw [if_pos (by omega)] | rw [if_neg (by omega)]), fun a ha1 ha2 => (mj_up_ne _ _ (show a ≠ 99 by omega)).trans (rfl)⟩
  · refine mv_tableIn (tgt := 98) (off := 92) d_TrustDeskModel_count_6 (by omega) (by omega) (by rw [b1]; rfl) (by decide) ?_
    refine mv_aload_n d_TrustDeskModel_count_98 rfl rfl ?_
    refine mv_get d_TrustDeskModel_count_99 f_TrustDeskModel_501_13 (mj_up_self _ _ _) rfl ?_
    exact mv_iret d_TrustDeskModel_count_102 rfl (by first | rfl | decide) ⟨(by unfold e_count; first | rw [if_pos (by omega)] | rw [if_neg (by omega)]), fun a ha1 ha2 => (mj_up_ne _ _ (show a ≠ 99 by omega)).trans (rfl)⟩
  · refine mv_tableIn (tgt := 103) (off := 97) d_TrustDeskModel_count_6 (by omega) (by omega) (by rw [b1]; rfl) (by decide) ?_
    refine mv_aload_n d_TrustDeskModel_count_103 rfl rfl ?_
    refine mv_get d_TrustDeskModel_count_104 f_TrustDeskModel_474_13 (mj_up_self _ _ _) rfl ?_
    exact mv_iret d_TrustDeskModel_count_107 rfl (by first | rfl | decide) ⟨(by unfold e_count; first | rw [if_pos (by omega)] | rw [if_neg (by omega)]), fun a ha1 ha2 => (mj_up_ne _ _ (show a ≠ 99 by omega)).trans (rfl)⟩
  · refine mv_tableIn (tgt := 108) (off := 102) d_TrustDeskModel_count_6 (by omega) (by omega) (by rw [b1]; rfl) (by decide) ?_
    refine mv_aload_n d_TrustDeskModel_count_108 rfl rfl ?_
    refine mv_get d_TrustDeskModel_count_109 f_TrustDeskModel_189_13 (mj_up_self _ _ _) rfl ?_
    exact mv_iret d_TrustDeskModel_count_112 rfl (by first | rfl | decide) ⟨(by unfold e_count; first | rw [if_pos (by omega)] | rw [if_neg (by omega)]), fun a ha1 ha2 => (mj_up_ne _ _ (show a ≠ 99 by omega)).trans (rfl)⟩
  · refine mv_tableIn (tgt := 113) (off := 107) d_TrustDeskModel_count_6 (by omega) (by omega) (by rw [b1]; rfl) (by decide) ?_
    refine mv_aload_n d_TrustDeskModel_count_113 rfl rfl ?_
    refine mv_get d_TrustDeskModel_count_114 f_TrustDeskModel_592_13 (mj_up_self _ _ _) rfl ?_
    exact mv_iret d_TrustDeskModel_count_117 rfl (by first | rfl | decide) ⟨(by unfold e_count; first | rw [if_pos (by omega)] | rw [if_neg (by omega)]), fun a ha1 ha2 => (mj_up_ne _ _ (show a ≠ 99 by omega)).trans (rfl)⟩
  · refine mv_tableIn (tgt := 118) (off := 112) d_TrustDeskModel_count_6 (by omega) (by omega) (by rw [b1]; rfl) (by decide) ?_
    refine mv_aload_n d_TrustDeskModel_count_118 rfl rfl ?_
    refine mv_callV_s (kc' := 0) (ks' := 0) [] [.ref 99] d_TrustDeskModel_count_119 lV_TrustDeskModel_597 (mj_up_self _ _ _) rfl (c_TrustDeskModel_made_0 (d := d) (h_99 := (mj_up_self _ _ _))) rfl (Nat.le_of_ble_eq_true rfl) (Nat.le_of_ble_eq_true rfl) (Nat.le_of_ble_eq_true rfl) rfl ?_
    exact mv_iret d_TrustDeskModel_count_122 rfl (by first | rfl | decide) ⟨(by unfold e_count; first | rw [if_pos (by omega)] | rw [if_neg (by omega)]), fun a ha1 ha2 => (mj_up_ne _ _ (show a ≠ 99 by omega)).trans (rfl)⟩
  · refine mv_tableIn (tgt := 123) (off := 117) d_TrustDeskModel_count_6 (by omega) (by omega) (by rw [b1]; rfl) (by decide) ?_
    refine mv_aload_n d_TrustDeskModel_count_123 rfl rfl ?_
    refine mv_callV_s (kc' := 0) (ks' := 0) [] [.ref 99] d_TrustDeskModel_count_124 lV_TrustDeskModel_600 (mj_up_self _ _ _) rfl (c_TrustDeskModel_free_0 (d := d) (h_99 := (mj_up_self _ _ _))) rfl (Nat.le_of_ble_eq_true rfl) (Nat.le_of_ble_eq_true rfl) (Nat.le_of_ble_eq_true rfl) rfl ?_
    exact mv_iret d_TrustDeskModel_count_127 rfl (by first | rfl | decide) ⟨(by unfold e_count; first | rw [if_pos (by omega)] | rw [if_neg (by omega)]), fun a ha1 ha2 => (mj_up_ne _ _ (show a ≠ 99 by omega)).trans (rfl)⟩
abbrev kY_TrustDeskModel_thrown : mj_Y := (⟨"TrustDeskModel", "thrown", "()I"⟩, prog_14_method_1_code, 1, (Option.some Jvm.ClassFile.FieldType.int))
theorem d_TrustDeskModel_thrown_0 : decode kY_TrustDeskModel_thrown.2.1 0 = .ok (.aload_n 0, 1) := by decide +kernel
theorem d_TrustDeskModel_thrown_1 : decode kY_TrustDeskModel_thrown.2.1 1 = .ok (.getfield 1, 3) := by decide +kernel
theorem f_TrustDeskModel_1_13 : mj_fl "TrustDeskModel" 1 13 0 := ⟨kR_TrustDeskModel, kF_TrustDeskModel, 72, "TrustDeskModel", rfl, kg_13, by decide, (mj_in1 (List.mem_of_getElem? (i := 1390) (by decide +kernel)) rfl), Or.inl rfl⟩
theorem d_TrustDeskModel_thrown_4 : decode kY_TrustDeskModel_thrown.2.1 4 = .ok (.ireturn, 1) := by decide +kernel
theorem c_TrustDeskModel_thrown_0 {g : mj_G} {l : Launch} {d nx : Nat} {M : mj_M} (h_99 : M 99 = some (.inr (13, [.int 1, .int 0, .int 0, .ref 100, .ref 101, .ref 102, .ref 103, .ref 104, .ref 105, .ref 106, .ref 107, .ref 108, .ref 109, .ref 110, .int 0, .int 0, .int 0, .int 0, .int 0, .int 0, .int 0, .int (-1), .int 0, .int 0, .int 0, .ref 111, .ref 112, .int 0, .ref 113, .ref 114, .ref 115, .int 0, .int 0, .ref 116, .ref 117, .ref 118, .ref 119, .ref 120, .ref 121, .ref 122, .ref 123, .ref 124, .ref 125, .ref 126, .ref 127, .ref 128, .ref 129, .ref 130, .ref 131, .int 0, .ref 132, .int 0, .ref 133, .int 0, .ref 134, .ref 135, .ref 136, .ref 137, .ref 138, .ref 139, .ref 140, .ref 141, .ref 142, .ref 143, .ref 144, .ref 145, .ref 146, .int 0, .long 0, .int 0, .int 0, .ref 147]))) : mj_Met g l kY_TrustDeskModel_thrown d [.ref 99] M nx 0 0 (mj_E1 (some (.int 1)) M nx) := by
  refine mj_enter (by decide) (Nat.le_of_ble_eq_true rfl) ?_
  refine mv_aload_n d_TrustDeskModel_thrown_0 rfl rfl ?_
  refine mv_get d_TrustDeskModel_thrown_1 f_TrustDeskModel_1_13 h_99 rfl ?_
  exact mv_iret d_TrustDeskModel_thrown_4 rfl (by first | rfl | decide) ⟨rfl, rfl, rfl⟩
