theorem tl_ge {a b : Int} (h : 0 ≤ a ∧ a ≤ 4) (e : a = b) : 0 ≤ b := by omega
theorem tl_st {a v p q : Int} (h0 : 0 ≤ a) (f3 : a = 0 → p = -1 ∧ v = 0) (f4 : a ≠ 0 → p = q ∧ v = -1 - a) : (0 ≤ v → a = 0 ∧ p = -1) ∧ (v < 0 → a ≠ 0 ∧ p = q ∧ v = -1 - a) := by
  by_cases h : a = 0
  · have h3 := f3 h
    exact ⟨fun _ => ⟨h, h3.1⟩, fun h9 => by omega⟩
  · have h3 := f4 h
    exact ⟨fun h9 => by omega, fun _ => ⟨h, h3.1, h3.2⟩⟩
abbrev kY_TrustDeskModel_act : mj_Y := (⟨"TrustDeskModel", "act", "(I)I"⟩, prog_14_method_44_code, 3, (Option.some Jvm.ClassFile.FieldType.int))
theorem d_TrustDeskModel_act_0 : decode kY_TrustDeskModel_act.2.1 0 = .ok (.aload_n 0, 1) := by decide +kernel
theorem d_TrustDeskModel_act_1 : decode kY_TrustDeskModel_act.2.1 1 = .ok (.iconst 0, 1) := by decide +kernel
theorem d_TrustDeskModel_act_2 : decode kY_TrustDeskModel_act.2.1 2 = .ok (.putfield 1, 3) := by decide +kernel
theorem p_TrustDeskModel_1_13 : mj_fp "TrustDeskModel" 1 13 0 (kt_TrustDeskModel 0) false := ⟨kR_TrustDeskModel, kF_TrustDeskModel, 72, "TrustDeskModel", kt_TrustDeskModel, rfl, kg_13, by decide, (mj_in1 (List.mem_of_getElem? (i := 1386) (by decide +kernel)) rfl), Or.inl rfl, kto_TrustDeskModel, kn_TrustDeskModel, rfl, rfl, fun h => by cases h⟩
theorem d_TrustDeskModel_act_5 : decode kY_TrustDeskModel_act.2.1 5 = .ok (.iload_n 1, 1) := by decide +kernel
theorem d_TrustDeskModel_act_6 : decode kY_TrustDeskModel_act.2.1 6 = .ok (.i2l, 1) := by decide +kernel
theorem d_TrustDeskModel_act_7 : decode kY_TrustDeskModel_act.2.1 7 = .ok (.lconst 0, 1) := by decide +kernel
theorem d_TrustDeskModel_act_8 : decode kY_TrustDeskModel_act.2.1 8 = .ok (.ldc2_w 376, 3) := by decide +kernel
theorem k_TrustDeskModel_376 : Cond.constantLong "TrustDeskModel" 376 36000 ∈ mj_T := (mj_in1 (List.mem_of_getElem? (i := 1643) (by decide +kernel)) rfl)
theorem d_TrustDeskModel_act_11 : decode kY_TrustDeskModel_act.2.1 11 = .ok (.invokestatic 169, 3) := by decide +kernel
theorem d_TrustDeskModel_act_14 : decode kY_TrustDeskModel_act.2.1 14 = .ok (.ifCond .eq 12, 3) := by decide +kernel
theorem d_TrustDeskModel_act_26 : decode kY_TrustDeskModel_act.2.1 26 = .ok (.iconst (-1), 1) := by decide +kernel
theorem d_TrustDeskModel_act_27 : decode kY_TrustDeskModel_act.2.1 27 = .ok (.ireturn, 1) := by decide +kernel
theorem d_TrustDeskModel_act_17 : decode kY_TrustDeskModel_act.2.1 17 = .ok (.aload_n 0, 1) := by decide +kernel
theorem d_TrustDeskModel_act_18 : decode kY_TrustDeskModel_act.2.1 18 = .ok (.getfield 378, 3) := by decide +kernel
theorem f_TrustDeskModel_378_13 : mj_fl "TrustDeskModel" 378 13 27 := ⟨kR_TrustDeskModel, kF_TrustDeskModel, 72, "TrustDeskModel", rfl, kg_13, by decide, (mj_in1 (List.mem_of_getElem? (i := 1413) (by decide +kernel)) rfl), Or.inl rfl⟩
theorem d_TrustDeskModel_act_21 : decode kY_TrustDeskModel_act.2.1 21 = .ok (.bipush 20, 2) := by decide +kernel
theorem d_TrustDeskModel_act_23 : decode kY_TrustDeskModel_act.2.1 23 = .ok (.if_icmp .ne 5, 3) := by decide +kernel
theorem d_TrustDeskModel_act_28 : decode kY_TrustDeskModel_act.2.1 28 = .ok (.aload_n 0, 1) := by decide +kernel
theorem d_TrustDeskModel_act_29 : decode kY_TrustDeskModel_act.2.1 29 = .ok (.iconst 1, 1) := by decide +kernel
theorem d_TrustDeskModel_act_30 : decode kY_TrustDeskModel_act.2.1 30 = .ok (.invokevirtual 381, 3) := by decide +kernel
theorem lV_TrustDeskModel_381 : mj_lV "TrustDeskModel" 381 kY_TrustDeskModel_starts 1 := ⟨⟨(mj_in1 (List.mem_of_getElem? (i := 1644) (by decide +kernel)) rfl), (mj_in1 (List.mem_of_getElem? (i := 10) (by decide +kernel)) rfl), (mj_in1 (List.mem_of_getElem? (i := 1647) (by decide +kernel)) rfl), by decide, rfl, by decide⟩, (mj_in1 (List.mem_of_getElem? (i := 1646) (by decide +kernel)) rfl), (mj_in (List.mem_append_left _ (List.mem_of_getElem? (i := 80) (by decide +kernel))) rfl)⟩
theorem d_TrustDeskModel_act_33 : decode kY_TrustDeskModel_act.2.1 33 = .ok (.aload_n 0, 1) := by decide +kernel
theorem d_TrustDeskModel_act_34 : decode kY_TrustDeskModel_act.2.1 34 = .ok (.invokevirtual 230, 3) := by decide +kernel
theorem d_TrustDeskModel_act_37 : decode kY_TrustDeskModel_act.2.1 37 = .ok (.ifCond .eq 17, 3) := by decide +kernel
theorem d_TrustDeskModel_act_54 : decode kY_TrustDeskModel_act.2.1 54 = .ok (.aload_n 0, 1) := by decide +kernel
theorem d_TrustDeskModel_act_55 : decode kY_TrustDeskModel_act.2.1 55 = .ok (.aload_n 0, 1) := by decide +kernel
theorem d_TrustDeskModel_act_56 : decode kY_TrustDeskModel_act.2.1 56 = .ok (.getfield 378, 3) := by decide +kernel
theorem d_TrustDeskModel_act_59 : decode kY_TrustDeskModel_act.2.1 59 = .ok (.invokevirtual 388, 3) := by decide +kernel
theorem lV_TrustDeskModel_388 : mj_lV "TrustDeskModel" 388 kY_TrustDeskModel_stops 1 := ⟨⟨(mj_in1 (List.mem_of_getElem? (i := 1772) (by decide +kernel)) rfl), (mj_in1 (List.mem_of_getElem? (i := 10) (by decide +kernel)) rfl), (mj_in1 (List.mem_of_getElem? (i := 1775) (by decide +kernel)) rfl), by decide, rfl, by decide⟩, (mj_in1 (List.mem_of_getElem? (i := 1774) (by decide +kernel)) rfl), (mj_in (List.mem_append_left _ (List.mem_of_getElem? (i := 103) (by decide +kernel))) rfl)⟩
theorem d_TrustDeskModel_act_62 : decode kY_TrustDeskModel_act.2.1 62 = .ok (.istore_n 2, 1) := by decide +kernel
theorem d_TrustDeskModel_act_63 : decode kY_TrustDeskModel_act.2.1 63 = .ok (.iload_n 2, 1) := by decide +kernel
theorem d_TrustDeskModel_act_64 : decode kY_TrustDeskModel_act.2.1 64 = .ok (.ifCond .ge 5, 3) := by decide +kernel
theorem d_TrustDeskModel_act_69 : decode kY_TrustDeskModel_act.2.1 69 = .ok (.aload_n 0, 1) := by decide +kernel
theorem d_TrustDeskModel_act_70 : decode kY_TrustDeskModel_act.2.1 70 = .ok (.getfield 57, 3) := by decide +kernel
theorem f_TrustDeskModel_57_13 : mj_fl "TrustDeskModel" 57 13 28 := ⟨kR_TrustDeskModel, kF_TrustDeskModel, 72, "TrustDeskModel", rfl, kg_13, by decide, (mj_in1 (List.mem_of_getElem? (i := 1414) (by decide +kernel)) rfl), Or.inl rfl⟩
theorem d_TrustDeskModel_act_73 : decode kY_TrustDeskModel_act.2.1 73 = .ok (.aload_n 0, 1) := by decide +kernel
theorem d_TrustDeskModel_act_74 : decode kY_TrustDeskModel_act.2.1 74 = .ok (.getfield 378, 3) := by decide +kernel
theorem d_TrustDeskModel_act_77 : decode kY_TrustDeskModel_act.2.1 77 = .ok (.iload_n 1, 1) := by decide +kernel
theorem d_TrustDeskModel_act_78 : decode kY_TrustDeskModel_act.2.1 78 = .ok (.iastore, 1) := by decide +kernel
theorem d_TrustDeskModel_act_79 : decode kY_TrustDeskModel_act.2.1 79 = .ok (.aload_n 0, 1) := by decide +kernel
theorem d_TrustDeskModel_act_80 : decode kY_TrustDeskModel_act.2.1 80 = .ok (.dup, 1) := by decide +kernel
theorem d_TrustDeskModel_act_81 : decode kY_TrustDeskModel_act.2.1 81 = .ok (.getfield 378, 3) := by decide +kernel
theorem d_TrustDeskModel_act_84 : decode kY_TrustDeskModel_act.2.1 84 = .ok (.iconst 1, 1) := by decide +kernel
theorem d_TrustDeskModel_act_85 : decode kY_TrustDeskModel_act.2.1 85 = .ok (.iadd, 1) := by decide +kernel
theorem d_TrustDeskModel_act_86 : decode kY_TrustDeskModel_act.2.1 86 = .ok (.putfield 378, 3) := by decide +kernel
theorem p_TrustDeskModel_378_13 : mj_fp "TrustDeskModel" 378 13 27 (kt_TrustDeskModel 27) false := ⟨kR_TrustDeskModel, kF_TrustDeskModel, 72, "TrustDeskModel", kt_TrustDeskModel, rfl, kg_13, by decide, (mj_in1 (List.mem_of_getElem? (i := 1413) (by decide +kernel)) rfl), Or.inl rfl, kto_TrustDeskModel, kn_TrustDeskModel, rfl, rfl, fun h => by cases h⟩
theorem d_TrustDeskModel_act_89 : decode kY_TrustDeskModel_act.2.1 89 = .ok (.aload_n 0, 1) := by decide +kernel
theorem d_TrustDeskModel_act_90 : decode kY_TrustDeskModel_act.2.1 90 = .ok (.getfield 23, 3) := by decide +kernel
theorem d_TrustDeskModel_act_93 : decode kY_TrustDeskModel_act.2.1 93 = .ok (.aload_n 0, 1) := by decide +kernel
theorem d_TrustDeskModel_act_94 : decode kY_TrustDeskModel_act.2.1 94 = .ok (.getfield 378, 3) := by decide +kernel
theorem d_TrustDeskModel_act_97 : decode kY_TrustDeskModel_act.2.1 97 = .ok (.iconst 1, 1) := by decide +kernel
theorem d_TrustDeskModel_act_98 : decode kY_TrustDeskModel_act.2.1 98 = .ok (.isub, 1) := by decide +kernel
theorem d_TrustDeskModel_act_99 : decode kY_TrustDeskModel_act.2.1 99 = .ok (.iaload, 1) := by decide +kernel
theorem d_TrustDeskModel_act_100 : decode kY_TrustDeskModel_act.2.1 100 = .ok (.ireturn, 1) := by decide +kernel
theorem d_TrustDeskModel_act_67 : decode kY_TrustDeskModel_act.2.1 67 = .ok (.iload_n 2, 1) := by decide +kernel
theorem d_TrustDeskModel_act_68 : decode kY_TrustDeskModel_act.2.1 68 = .ok (.ireturn, 1) := by decide +kernel
theorem d_TrustDeskModel_act_40 : decode kY_TrustDeskModel_act.2.1 40 = .ok (.aload_n 0, 1) := by decide +kernel
theorem d_TrustDeskModel_act_41 : decode kY_TrustDeskModel_act.2.1 41 = .ok (.getfield 198, 3) := by decide +kernel
theorem d_TrustDeskModel_act_44 : decode kY_TrustDeskModel_act.2.1 44 = .ok (.ifCond .eq 10, 3) := by decide +kernel
theorem d_TrustDeskModel_act_47 : decode kY_TrustDeskModel_act.2.1 47 = .ok (.aload_n 0, 1) := by decide +kernel
theorem d_TrustDeskModel_act_48 : decode kY_TrustDeskModel_act.2.1 48 = .ok (.invokevirtual 385, 3) := by decide +kernel
theorem lV_TrustDeskModel_385 : mj_lV "TrustDeskModel" 385 kY_TrustDeskModel_readRule 0 := ⟨⟨(mj_in1 (List.mem_of_getElem? (i := 1666) (by decide +kernel)) rfl), (mj_in1 (List.mem_of_getElem? (i := 10) (by decide +kernel)) rfl), (mj_in1 (List.mem_of_getElem? (i := 1669) (by decide +kernel)) rfl), by decide, rfl, by decide⟩, (mj_in1 (List.mem_of_getElem? (i := 1668) (by decide +kernel)) rfl), (mj_in (List.mem_append_left _ (List.mem_of_getElem? (i := 84) (by decide +kernel))) rfl)⟩
theorem d_TrustDeskModel_act_51 : decode kY_TrustDeskModel_act.2.1 51 = .ok (.goto (-18), 3) := by decide +kernel
