section PNE
variable {b : Nat → Int} {n : Nat} {s t u : p_S}
theorem p_ov_f (h : s.1 ≠ 0) : p_ov b n s = s := if_neg fun h9 => h h9.1
theorem p_nea_e (h : p_wi b n 0 = 26) : p_nea b n = p_ov b n (p_cl b n 10 (0, [], (0, 0, 0))).2 := by
  have e : (p_cl b n 10 (0, [], (0, 0, 0))).2 = p_sg b n 59 (p_en1 b n 10 [] (p_nx (0, 0, 0))) := by
    unfold p_cl
    rw [if_pos rfl, if_pos (Or.inl h), if_neg (by intro h8; rcases h8 with h8 | h8; (exact absurd h8 (by decide)); exact absurd h8.2 (by decide)), if_pos h]
  rw [e]
  unfold p_nea
  rw [if_pos h]
theorem p_nea_0 (e0 : (0, 0, 0) = s) (h : p_wi b n s.2.2 ≠ 26) (e1 : p_fl b n 1 s = t) : p_nea b n = t := by
  subst e0
  subst e1
  unfold p_nea
  rw [if_neg h]
  exact p_ov_f (by unfold p_fl; rw [if_pos rfl]; exact (by decide : (1 : Int) ≠ 0))
theorem p_nea_f (e0 : (0, 0, 0) = s) (h : p_wi b n s.2.2 = 26) (e1 : (p_cl b n 10 (0, [], s)).2 = t) (h1 : t.1 ≠ 0) : p_nea b n = t := by
  subst e0
  rw [p_nea_e h, e1]
  exact p_ov_f h1
theorem p_nea_o (e0 : (0, 0, 0) = s) (h : p_wi b n s.2.2 = 26) (e1 : (p_cl b n 10 (0, [], s)).2 = t) (h1 : p_ki b n t.2.2 = 0) : p_nea b n = t := by
  subst e0
  rw [p_nea_e h, e1]
  exact if_neg fun h9 => h9.2 h1
theorem p_nea_m (e0 : (0, 0, 0) = s) (h : p_wi b n s.2.2 = 26) (e1 : (p_cl b n 10 (0, [], s)).2 = t) (h1 : t.1 = 0) (h2 : p_ki b n t.2.2 ≠ 0) (e2 : p_fl b n 1 t = u) : p_nea b n = u := by
  subst e0
  rw [p_nea_e h, e1, ← e2]
  exact if_pos ⟨h1, h2⟩
end PNE
abbrev kY_TrustDeskModel_near : mj_Y := (⟨"TrustDeskModel", "near", "(I)I"⟩, prog_14_method_56_code, 3, (Option.some Jvm.ClassFile.FieldType.int))
theorem d_TrustDeskModel_near_0 : decode kY_TrustDeskModel_near.2.1 0 = .ok (.aload_n 0, 1) := by decide +kernel
theorem d_TrustDeskModel_near_1 : decode kY_TrustDeskModel_near.2.1 1 = .ok (.iconst 0, 1) := by decide +kernel
theorem d_TrustDeskModel_near_2 : decode kY_TrustDeskModel_near.2.1 2 = .ok (.putfield 1, 3) := by decide +kernel
theorem d_TrustDeskModel_near_5 : decode kY_TrustDeskModel_near.2.1 5 = .ok (.iload_n 1, 1) := by decide +kernel
theorem d_TrustDeskModel_near_6 : decode kY_TrustDeskModel_near.2.1 6 = .ok (.i2l, 1) := by decide +kernel
theorem d_TrustDeskModel_near_7 : decode kY_TrustDeskModel_near.2.1 7 = .ok (.lconst 0, 1) := by decide +kernel
theorem d_TrustDeskModel_near_8 : decode kY_TrustDeskModel_near.2.1 8 = .ok (.ldc2_w 433, 3) := by decide +kernel
theorem k_TrustDeskModel_433 : Cond.constantLong "TrustDeskModel" 433 255 ∈ mj_T := (mj_in1 (List.mem_of_getElem? (i := 1825) (by decide +kernel)) rfl)
theorem d_TrustDeskModel_near_11 : decode kY_TrustDeskModel_near.2.1 11 = .ok (.invokestatic 169, 3) := by decide +kernel
theorem d_TrustDeskModel_near_14 : decode kY_TrustDeskModel_near.2.1 14 = .ok (.ifCond .eq 12, 3) := by decide +kernel
theorem d_TrustDeskModel_near_26 : decode kY_TrustDeskModel_near.2.1 26 = .ok (.iconst (-1), 1) := by decide +kernel
theorem d_TrustDeskModel_near_27 : decode kY_TrustDeskModel_near.2.1 27 = .ok (.ireturn, 1) := by decide +kernel
theorem d_TrustDeskModel_near_17 : decode kY_TrustDeskModel_near.2.1 17 = .ok (.aload_n 0, 1) := by decide +kernel
theorem d_TrustDeskModel_near_18 : decode kY_TrustDeskModel_near.2.1 18 = .ok (.getfield 435, 3) := by decide +kernel
theorem f_TrustDeskModel_435_13 : mj_fl "TrustDeskModel" 435 13 49 := ⟨kR_TrustDeskModel, kF_TrustDeskModel, 72, "TrustDeskModel", rfl, kg_13, by decide, (mj_in1 (List.mem_of_getElem? (i := 1435) (by decide +kernel)) rfl), Or.inl rfl⟩
theorem d_TrustDeskModel_near_21 : decode kY_TrustDeskModel_near.2.1 21 = .ok (.bipush 12, 2) := by decide +kernel
theorem d_TrustDeskModel_near_23 : decode kY_TrustDeskModel_near.2.1 23 = .ok (.if_icmp .ne 5, 3) := by decide +kernel
theorem d_TrustDeskModel_near_28 : decode kY_TrustDeskModel_near.2.1 28 = .ok (.aload_n 0, 1) := by decide +kernel
theorem d_TrustDeskModel_near_29 : decode kY_TrustDeskModel_near.2.1 29 = .ok (.iconst 0, 1) := by decide +kernel
theorem d_TrustDeskModel_near_30 : decode kY_TrustDeskModel_near.2.1 30 = .ok (.invokevirtual 381, 3) := by decide +kernel
theorem d_TrustDeskModel_near_33 : decode kY_TrustDeskModel_near.2.1 33 = .ok (.aload_n 0, 1) := by decide +kernel
theorem d_TrustDeskModel_near_34 : decode kY_TrustDeskModel_near.2.1 34 = .ok (.ldc_w 336, 3) := by decide +kernel
theorem d_TrustDeskModel_near_37 : decode kY_TrustDeskModel_near.2.1 37 = .ok (.invokevirtual 244, 3) := by decide +kernel
theorem d_TrustDeskModel_near_40 : decode kY_TrustDeskModel_near.2.1 40 = .ok (.ifCond .eq 10, 3) := by decide +kernel
theorem d_TrustDeskModel_near_50 : decode kY_TrustDeskModel_near.2.1 50 = .ok (.aload_n 0, 1) := by decide +kernel
theorem d_TrustDeskModel_near_51 : decode kY_TrustDeskModel_near.2.1 51 = .ok (.iconst 1, 1) := by decide +kernel
theorem d_TrustDeskModel_near_52 : decode kY_TrustDeskModel_near.2.1 52 = .ok (.invokevirtual 240, 3) := by decide +kernel
theorem d_TrustDeskModel_near_55 : decode kY_TrustDeskModel_near.2.1 55 = .ok (.aload_n 0, 1) := by decide +kernel
theorem d_TrustDeskModel_near_56 : decode kY_TrustDeskModel_near.2.1 56 = .ok (.invokevirtual 230, 3) := by decide +kernel
theorem d_TrustDeskModel_near_59 : decode kY_TrustDeskModel_near.2.1 59 = .ok (.ifCond .eq 15, 3) := by decide +kernel
theorem d_TrustDeskModel_near_74 : decode kY_TrustDeskModel_near.2.1 74 = .ok (.aload_n 0, 1) := by decide +kernel
theorem d_TrustDeskModel_near_75 : decode kY_TrustDeskModel_near.2.1 75 = .ok (.bipush 32, 2) := by decide +kernel
theorem d_TrustDeskModel_near_77 : decode kY_TrustDeskModel_near.2.1 77 = .ok (.aload_n 0, 1) := by decide +kernel
theorem d_TrustDeskModel_near_78 : decode kY_TrustDeskModel_near.2.1 78 = .ok (.getfield 435, 3) := by decide +kernel
theorem d_TrustDeskModel_near_81 : decode kY_TrustDeskModel_near.2.1 81 = .ok (.iadd, 1) := by decide +kernel
theorem d_TrustDeskModel_near_82 : decode kY_TrustDeskModel_near.2.1 82 = .ok (.invokevirtual 388, 3) := by decide +kernel
theorem d_TrustDeskModel_near_85 : decode kY_TrustDeskModel_near.2.1 85 = .ok (.istore_n 2, 1) := by decide +kernel
theorem d_TrustDeskModel_near_86 : decode kY_TrustDeskModel_near.2.1 86 = .ok (.iload_n 2, 1) := by decide +kernel
theorem d_TrustDeskModel_near_87 : decode kY_TrustDeskModel_near.2.1 87 = .ok (.ifCond .ge 5, 3) := by decide +kernel
theorem d_TrustDeskModel_near_92 : decode kY_TrustDeskModel_near.2.1 92 = .ok (.aload_n 0, 1) := by decide +kernel
theorem d_TrustDeskModel_near_93 : decode kY_TrustDeskModel_near.2.1 93 = .ok (.getfield 116, 3) := by decide +kernel
theorem f_TrustDeskModel_116_13 : mj_fl "TrustDeskModel" 116 13 50 := ⟨kR_TrustDeskModel, kF_TrustDeskModel, 72, "TrustDeskModel", rfl, kg_13, by decide, (mj_in1 (List.mem_of_getElem? (i := 1436) (by decide +kernel)) rfl), Or.inl rfl⟩
theorem d_TrustDeskModel_near_96 : decode kY_TrustDeskModel_near.2.1 96 = .ok (.aload_n 0, 1) := by decide +kernel
theorem d_TrustDeskModel_near_97 : decode kY_TrustDeskModel_near.2.1 97 = .ok (.getfield 435, 3) := by decide +kernel
theorem d_TrustDeskModel_near_100 : decode kY_TrustDeskModel_near.2.1 100 = .ok (.iload_n 1, 1) := by decide +kernel
theorem d_TrustDeskModel_near_101 : decode kY_TrustDeskModel_near.2.1 101 = .ok (.iastore, 1) := by decide +kernel
theorem d_TrustDeskModel_near_102 : decode kY_TrustDeskModel_near.2.1 102 = .ok (.aload_n 0, 1) := by decide +kernel
theorem d_TrustDeskModel_near_103 : decode kY_TrustDeskModel_near.2.1 103 = .ok (.dup, 1) := by decide +kernel
theorem d_TrustDeskModel_near_104 : decode kY_TrustDeskModel_near.2.1 104 = .ok (.getfield 435, 3) := by decide +kernel
theorem d_TrustDeskModel_near_107 : decode kY_TrustDeskModel_near.2.1 107 = .ok (.iconst 1, 1) := by decide +kernel
theorem d_TrustDeskModel_near_108 : decode kY_TrustDeskModel_near.2.1 108 = .ok (.iadd, 1) := by decide +kernel
theorem d_TrustDeskModel_near_109 : decode kY_TrustDeskModel_near.2.1 109 = .ok (.putfield 435, 3) := by decide +kernel
theorem p_TrustDeskModel_435_13 : mj_fp "TrustDeskModel" 435 13 49 (kt_TrustDeskModel 49) false := ⟨kR_TrustDeskModel, kF_TrustDeskModel, 72, "TrustDeskModel", kt_TrustDeskModel, rfl, kg_13, by decide, (mj_in1 (List.mem_of_getElem? (i := 1435) (by decide +kernel)) rfl), Or.inl rfl, kto_TrustDeskModel, kn_TrustDeskModel, rfl, rfl, fun h => by cases h⟩
theorem d_TrustDeskModel_near_112 : decode kY_TrustDeskModel_near.2.1 112 = .ok (.aload_n 0, 1) := by decide +kernel
theorem d_TrustDeskModel_near_113 : decode kY_TrustDeskModel_near.2.1 113 = .ok (.getfield 435, 3) := by decide +kernel
theorem d_TrustDeskModel_near_116 : decode kY_TrustDeskModel_near.2.1 116 = .ok (.iconst 1, 1) := by decide +kernel
theorem d_TrustDeskModel_near_117 : decode kY_TrustDeskModel_near.2.1 117 = .ok (.isub, 1) := by decide +kernel
theorem d_TrustDeskModel_near_118 : decode kY_TrustDeskModel_near.2.1 118 = .ok (.ireturn, 1) := by decide +kernel
theorem d_TrustDeskModel_near_90 : decode kY_TrustDeskModel_near.2.1 90 = .ok (.iload_n 2, 1) := by decide +kernel
theorem d_TrustDeskModel_near_91 : decode kY_TrustDeskModel_near.2.1 91 = .ok (.ireturn, 1) := by decide +kernel
theorem d_TrustDeskModel_near_43 : decode kY_TrustDeskModel_near.2.1 43 = .ok (.aload_n 0, 1) := by decide +kernel
theorem d_TrustDeskModel_near_44 : decode kY_TrustDeskModel_near.2.1 44 = .ok (.invokevirtual 425, 3) := by decide +kernel
theorem lV_TrustDeskModel_425 : mj_lV "TrustDeskModel" 425 kY_TrustDeskModel_readClause 0 := ⟨⟨(mj_in1 (List.mem_of_getElem? (i := 1795) (by decide +kernel)) rfl), (mj_in1 (List.mem_of_getElem? (i := 10) (by decide +kernel)) rfl), (mj_in1 (List.mem_of_getElem? (i := 1798) (by decide +kernel)) rfl), by decide, rfl, by decide⟩, (mj_in1 (List.mem_of_getElem? (i := 1797) (by decide +kernel)) rfl), (mj_in (List.mem_append_left _ (List.mem_of_getElem? (i := 106) (by decide +kernel))) rfl)⟩
theorem d_TrustDeskModel_near_47 : decode kY_TrustDeskModel_near.2.1 47 = .ok (.goto 8, 3) := by decide +kernel
theorem d_TrustDeskModel_near_62 : decode kY_TrustDeskModel_near.2.1 62 = .ok (.aload_n 0, 1) := by decide +kernel
theorem d_TrustDeskModel_near_63 : decode kY_TrustDeskModel_near.2.1 63 = .ok (.getfield 198, 3) := by decide +kernel
theorem d_TrustDeskModel_near_66 : decode kY_TrustDeskModel_near.2.1 66 = .ok (.ifCond .eq 8, 3) := by decide +kernel
theorem d_TrustDeskModel_near_69 : decode kY_TrustDeskModel_near.2.1 69 = .ok (.aload_n 0, 1) := by decide +kernel
theorem d_TrustDeskModel_near_70 : decode kY_TrustDeskModel_near.2.1 70 = .ok (.iconst 1, 1) := by decide +kernel
theorem d_TrustDeskModel_near_71 : decode kY_TrustDeskModel_near.2.1 71 = .ok (.invokevirtual 240, 3) := by decide +kernel
