abbrev kY_TrustDeskModel_groups : mj_Y := (⟨"TrustDeskModel", "groups", "(I)Z"⟩, prog_14_method_96_code, 2, (Option.some Jvm.ClassFile.FieldType.boolean))
theorem d_TrustDeskModel_groups_0 : decode kY_TrustDeskModel_groups.2.1 0 = .ok (.aload_n 0, 1) := by decide +kernel
theorem d_TrustDeskModel_groups_1 : decode kY_TrustDeskModel_groups.2.1 1 = .ok (.iload_n 1, 1) := by decide +kernel
theorem d_TrustDeskModel_groups_2 : decode kY_TrustDeskModel_groups.2.1 2 = .ok (.invokevirtual 581, 3) := by decide +kernel
theorem lV_TrustDeskModel_581 : mj_lV "TrustDeskModel" 581 kY_TrustDeskModel_areAsked 1 := ⟨⟨(mj_in1 (List.mem_of_getElem? (i := 2018) (by decide +kernel)) rfl), (mj_in1 (List.mem_of_getElem? (i := 10) (by decide +kernel)) rfl), (mj_in1 (List.mem_of_getElem? (i := 2021) (by decide +kernel)) rfl), by decide, rfl, by decide⟩, (mj_in1 (List.mem_of_getElem? (i := 2020) (by decide +kernel)) rfl), (mj_in (List.mem_append_left _ (List.mem_of_getElem? (i := 139) (by decide +kernel))) rfl)⟩
theorem d_TrustDeskModel_groups_5 : decode kY_TrustDeskModel_groups.2.1 5 = .ok (.ifCond .ne 5, 3) := by decide +kernel
theorem d_TrustDeskModel_groups_10 : decode kY_TrustDeskModel_groups.2.1 10 = .ok (.aload_n 0, 1) := by decide +kernel
theorem d_TrustDeskModel_groups_11 : decode kY_TrustDeskModel_groups.2.1 11 = .ok (.iload_n 1, 1) := by decide +kernel
theorem d_TrustDeskModel_groups_12 : decode kY_TrustDeskModel_groups.2.1 12 = .ok (.invokevirtual 584, 3) := by decide +kernel
theorem lV_TrustDeskModel_584 : mj_lV "TrustDeskModel" 584 kY_TrustDeskModel_findOver 1 := ⟨⟨(mj_in1 (List.mem_of_getElem? (i := 2022) (by decide +kernel)) rfl), (mj_in1 (List.mem_of_getElem? (i := 10) (by decide +kernel)) rfl), (mj_in1 (List.mem_of_getElem? (i := 2025) (by decide +kernel)) rfl), by decide, rfl, by decide⟩, (mj_in1 (List.mem_of_getElem? (i := 2024) (by decide +kernel)) rfl), (mj_in (List.mem_append_left _ (List.mem_of_getElem? (i := 140) (by decide +kernel))) rfl)⟩
theorem d_TrustDeskModel_groups_15 : decode kY_TrustDeskModel_groups.2.1 15 = .ok (.aload_n 0, 1) := by decide +kernel
theorem d_TrustDeskModel_groups_16 : decode kY_TrustDeskModel_groups.2.1 16 = .ok (.iconst 0, 1) := by decide +kernel
theorem d_TrustDeskModel_groups_17 : decode kY_TrustDeskModel_groups.2.1 17 = .ok (.putfield 571, 3) := by decide +kernel
theorem p_TrustDeskModel_571_13 : mj_fp "TrustDeskModel" 571 13 69 (kt_TrustDeskModel 69) false := ⟨kR_TrustDeskModel, kF_TrustDeskModel, 72, "TrustDeskModel", kt_TrustDeskModel, rfl, kg_13, by decide, (mj_in1 (List.mem_of_getElem? (i := 1455) (by decide +kernel)) rfl), Or.inl rfl, kto_TrustDeskModel, kn_TrustDeskModel, rfl, rfl, fun h => by cases h⟩
theorem d_TrustDeskModel_groups_20 : decode kY_TrustDeskModel_groups.2.1 20 = .ok (.aload_n 0, 1) := by decide +kernel
theorem d_TrustDeskModel_groups_21 : decode kY_TrustDeskModel_groups.2.1 21 = .ok (.lconst 0, 1) := by decide +kernel
theorem d_TrustDeskModel_groups_22 : decode kY_TrustDeskModel_groups.2.1 22 = .ok (.putfield 574, 3) := by decide +kernel
theorem p_TrustDeskModel_574_13 : mj_fp "TrustDeskModel" 574 13 68 (kt_TrustDeskModel 68) false := ⟨kR_TrustDeskModel, kF_TrustDeskModel, 72, "TrustDeskModel", kt_TrustDeskModel, rfl, kg_13, by decide, (mj_in1 (List.mem_of_getElem? (i := 1454) (by decide +kernel)) rfl), Or.inl rfl, kto_TrustDeskModel, kn_TrustDeskModel, rfl, rfl, fun h => by cases h⟩
theorem d_TrustDeskModel_groups_25 : decode kY_TrustDeskModel_groups.2.1 25 = .ok (.aload_n 0, 1) := by decide +kernel
theorem d_TrustDeskModel_groups_26 : decode kY_TrustDeskModel_groups.2.1 26 = .ok (.iconst 0, 1) := by decide +kernel
theorem d_TrustDeskModel_groups_27 : decode kY_TrustDeskModel_groups.2.1 27 = .ok (.iconst 0, 1) := by decide +kernel
theorem d_TrustDeskModel_groups_28 : decode kY_TrustDeskModel_groups.2.1 28 = .ok (.invokevirtual 578, 3) := by decide +kernel
abbrev kY_TrustDeskModel_counts : mj_Y := (⟨"TrustDeskModel", "counts", "(II)V"⟩, prog_14_method_95_code, 6, (Option.none : Option Jvm.ClassFile.FieldType))
theorem d_TrustDeskModel_counts_0 : decode kY_TrustDeskModel_counts.2.1 0 = .ok (.iload_n 1, 1) := by decide +kernel
theorem d_TrustDeskModel_counts_1 : decode kY_TrustDeskModel_counts.2.1 1 = .ok (.aload_n 0, 1) := by decide +kernel
theorem d_TrustDeskModel_counts_2 : decode kY_TrustDeskModel_counts.2.1 2 = .ok (.getfield 415, 3) := by decide +kernel
theorem d_TrustDeskModel_counts_5 : decode kY_TrustDeskModel_counts.2.1 5 = .ok (.if_icmp .ne 93, 3) := by decide +kernel
theorem d_TrustDeskModel_counts_98 : decode kY_TrustDeskModel_counts.2.1 98 = .ok (.aload_n 0, 1) := by decide +kernel
theorem d_TrustDeskModel_counts_99 : decode kY_TrustDeskModel_counts.2.1 99 = .ok (.getfield 560, 3) := by decide +kernel
theorem f_TrustDeskModel_560_13 : mj_fl "TrustDeskModel" 560 13 67 := ⟨kR_TrustDeskModel, kF_TrustDeskModel, 72, "TrustDeskModel", rfl, kg_13, by decide, (mj_in1 (List.mem_of_getElem? (i := 1453) (by decide +kernel)) rfl), Or.inl rfl⟩
theorem d_TrustDeskModel_counts_102 : decode kY_TrustDeskModel_counts.2.1 102 = .ok (.iload_n 1, 1) := by decide +kernel
theorem d_TrustDeskModel_counts_103 : decode kY_TrustDeskModel_counts.2.1 103 = .ok (.ishr, 1) := by decide +kernel
theorem d_TrustDeskModel_counts_104 : decode kY_TrustDeskModel_counts.2.1 104 = .ok (.iconst 1, 1) := by decide +kernel
theorem d_TrustDeskModel_counts_105 : decode kY_TrustDeskModel_counts.2.1 105 = .ok (.iand, 1) := by decide +kernel
theorem d_TrustDeskModel_counts_106 : decode kY_TrustDeskModel_counts.2.1 106 = .ok (.ifCond .ne 12, 3) := by decide +kernel
theorem d_TrustDeskModel_counts_118 : decode kY_TrustDeskModel_counts.2.1 118 = .ok (.iconst 0, 1) := by decide +kernel
theorem d_TrustDeskModel_counts_119 : decode kY_TrustDeskModel_counts.2.1 119 = .ok (.istore_n 3, 1) := by decide +kernel
theorem d_TrustDeskModel_counts_120 : decode kY_TrustDeskModel_counts.2.1 120 = .ok (.iload_n 3, 1) := by decide +kernel
theorem d_TrustDeskModel_counts_121 : decode kY_TrustDeskModel_counts.2.1 121 = .ok (.iload_n 2, 1) := by decide +kernel
theorem d_TrustDeskModel_counts_122 : decode kY_TrustDeskModel_counts.2.1 122 = .ok (.if_icmp .gt 41, 3) := by decide +kernel
theorem d_TrustDeskModel_counts_163 : decode kY_TrustDeskModel_counts.2.1 163 = .ok (.return_, 1) := by decide +kernel
theorem d_TrustDeskModel_counts_125 : decode kY_TrustDeskModel_counts.2.1 125 = .ok (.iload_n 3, 1) := by decide +kernel
theorem d_TrustDeskModel_counts_126 : decode kY_TrustDeskModel_counts.2.1 126 = .ok (.bipush 8, 2) := by decide +kernel
theorem d_TrustDeskModel_counts_128 : decode kY_TrustDeskModel_counts.2.1 128 = .ok (.if_icmp .ge 35, 3) := by decide +kernel
theorem d_TrustDeskModel_counts_131 : decode kY_TrustDeskModel_counts.2.1 131 = .ok (.aload_n 0, 1) := by decide +kernel
theorem d_TrustDeskModel_counts_132 : decode kY_TrustDeskModel_counts.2.1 132 = .ok (.getfield 152, 3) := by decide +kernel
theorem f_TrustDeskModel_152_13 : mj_fl "TrustDeskModel" 152 13 64 := ⟨kR_TrustDeskModel, kF_TrustDeskModel, 72, "TrustDeskModel", rfl, kg_13, by decide, (mj_in1 (List.mem_of_getElem? (i := 1450) (by decide +kernel)) rfl), Or.inl rfl⟩
theorem d_TrustDeskModel_counts_135 : decode kY_TrustDeskModel_counts.2.1 135 = .ok (.iload_n 1, 1) := by decide +kernel
theorem d_TrustDeskModel_counts_136 : decode kY_TrustDeskModel_counts.2.1 136 = .ok (.iload_n 3, 1) := by decide +kernel
theorem d_TrustDeskModel_counts_137 : decode kY_TrustDeskModel_counts.2.1 137 = .ok (.iastore, 1) := by decide +kernel
theorem d_TrustDeskModel_counts_138 : decode kY_TrustDeskModel_counts.2.1 138 = .ok (.aload_n 0, 1) := by decide +kernel
theorem d_TrustDeskModel_counts_139 : decode kY_TrustDeskModel_counts.2.1 139 = .ok (.iload_n 1, 1) := by decide +kernel
theorem d_TrustDeskModel_counts_140 : decode kY_TrustDeskModel_counts.2.1 140 = .ok (.iconst 1, 1) := by decide +kernel
theorem d_TrustDeskModel_counts_141 : decode kY_TrustDeskModel_counts.2.1 141 = .ok (.iadd, 1) := by decide +kernel
theorem d_TrustDeskModel_counts_142 : decode kY_TrustDeskModel_counts.2.1 142 = .ok (.iload_n 3, 1) := by decide +kernel
theorem d_TrustDeskModel_counts_143 : decode kY_TrustDeskModel_counts.2.1 143 = .ok (.iload_n 2, 1) := by decide +kernel
theorem d_TrustDeskModel_counts_144 : decode kY_TrustDeskModel_counts.2.1 144 = .ok (.if_icmp .ne 9, 3) := by decide +kernel
theorem d_TrustDeskModel_counts_153 : decode kY_TrustDeskModel_counts.2.1 153 = .ok (.iload_n 2, 1) := by decide +kernel
theorem d_TrustDeskModel_counts_154 : decode kY_TrustDeskModel_counts.2.1 154 = .ok (.invokevirtual 578, 3) := by decide +kernel
theorem d_TrustDeskModel_counts_8 : decode kY_TrustDeskModel_counts.2.1 8 = .ok (.aload_n 0, 1) := by decide +kernel
theorem d_TrustDeskModel_counts_9 : decode kY_TrustDeskModel_counts.2.1 9 = .ok (.aload_n 0, 1) := by decide +kernel
theorem d_TrustDeskModel_counts_10 : decode kY_TrustDeskModel_counts.2.1 10 = .ok (.getfield 152, 3) := by decide +kernel
theorem d_TrustDeskModel_counts_13 : decode kY_TrustDeskModel_counts.2.1 13 = .ok (.invokevirtual 567, 3) := by decide +kernel
abbrev kY_TrustDeskModel_idle : mj_Y := (⟨"TrustDeskModel", "idle", "([I)J"⟩, prog_14_method_94_code, 10, (Option.some Jvm.ClassFile.FieldType.long))
theorem d_TrustDeskModel_idle_0 : decode kY_TrustDeskModel_idle.2.1 0 = .ok (.lconst 0, 1) := by decide +kernel
theorem d_TrustDeskModel_idle_1 : decode kY_TrustDeskModel_idle.2.1 1 = .ok (.lstore_n 2, 1) := by decide +kernel
theorem d_TrustDeskModel_idle_2 : decode kY_TrustDeskModel_idle.2.1 2 = .ok (.iconst 0, 1) := by decide +kernel
theorem d_TrustDeskModel_idle_3 : decode kY_TrustDeskModel_idle.2.1 3 = .ok (.istore 4, 2) := by decide +kernel
theorem d_TrustDeskModel_idle_5 : decode kY_TrustDeskModel_idle.2.1 5 = .ok (.iload 4, 2) := by decide +kernel
theorem d_TrustDeskModel_idle_7 : decode kY_TrustDeskModel_idle.2.1 7 = .ok (.bipush 8, 2) := by decide +kernel
theorem d_TrustDeskModel_idle_9 : decode kY_TrustDeskModel_idle.2.1 9 = .ok (.if_icmp .ge 125, 3) := by decide +kernel
theorem d_TrustDeskModel_idle_134 : decode kY_TrustDeskModel_idle.2.1 134 = .ok (.lload_n 2, 1) := by decide +kernel
theorem d_TrustDeskModel_idle_135 : decode kY_TrustDeskModel_idle.2.1 135 = .ok (.lreturn, 1) := by decide +kernel
theorem d_TrustDeskModel_idle_12 : decode kY_TrustDeskModel_idle.2.1 12 = .ok (.lconst 0, 1) := by decide +kernel
theorem d_TrustDeskModel_idle_13 : decode kY_TrustDeskModel_idle.2.1 13 = .ok (.lstore 5, 2) := by decide +kernel
theorem d_TrustDeskModel_idle_15 : decode kY_TrustDeskModel_idle.2.1 15 = .ok (.iconst 0, 1) := by decide +kernel
theorem d_TrustDeskModel_idle_16 : decode kY_TrustDeskModel_idle.2.1 16 = .ok (.istore 7, 2) := by decide +kernel
theorem d_TrustDeskModel_idle_18 : decode kY_TrustDeskModel_idle.2.1 18 = .ok (.sipush 255, 3) := by decide +kernel
theorem d_TrustDeskModel_idle_21 : decode kY_TrustDeskModel_idle.2.1 21 = .ok (.istore 8, 2) := by decide +kernel
theorem d_TrustDeskModel_idle_23 : decode kY_TrustDeskModel_idle.2.1 23 = .ok (.iconst 0, 1) := by decide +kernel
theorem d_TrustDeskModel_idle_24 : decode kY_TrustDeskModel_idle.2.1 24 = .ok (.istore 9, 2) := by decide +kernel
theorem d_TrustDeskModel_idle_26 : decode kY_TrustDeskModel_idle.2.1 26 = .ok (.iload 9, 2) := by decide +kernel
theorem d_TrustDeskModel_idle_28 : decode kY_TrustDeskModel_idle.2.1 28 = .ok (.aload_n 0, 1) := by decide +kernel
theorem d_TrustDeskModel_idle_29 : decode kY_TrustDeskModel_idle.2.1 29 = .ok (.getfield 415, 3) := by decide +kernel
theorem d_TrustDeskModel_idle_32 : decode kY_TrustDeskModel_idle.2.1 32 = .ok (.if_icmp .ge 60, 3) := by decide +kernel
theorem d_TrustDeskModel_idle_92 : decode kY_TrustDeskModel_idle.2.1 92 = .ok (.iload 7, 2) := by decide +kernel
theorem d_TrustDeskModel_idle_94 : decode kY_TrustDeskModel_idle.2.1 94 = .ok (.iconst 1, 1) := by decide +kernel
theorem d_TrustDeskModel_idle_95 : decode kY_TrustDeskModel_idle.2.1 95 = .ok (.if_icmp .le 24, 3) := by decide +kernel
theorem d_TrustDeskModel_idle_119 : decode kY_TrustDeskModel_idle.2.1 119 = .ok (.lload_n 2, 1) := by decide +kernel
theorem d_TrustDeskModel_idle_120 : decode kY_TrustDeskModel_idle.2.1 120 = .ok (.lconst 0, 1) := by decide +kernel
theorem d_TrustDeskModel_idle_121 : decode kY_TrustDeskModel_idle.2.1 121 = .ok (.lload 5, 2) := by decide +kernel
theorem d_TrustDeskModel_idle_123 : decode kY_TrustDeskModel_idle.2.1 123 = .ok (.invokestatic 565, 3) := by decide +kernel
theorem d_TrustDeskModel_idle_126 : decode kY_TrustDeskModel_idle.2.1 126 = .ok (.ladd, 1) := by decide +kernel
theorem d_TrustDeskModel_idle_127 : decode kY_TrustDeskModel_idle.2.1 127 = .ok (.lstore_n 2, 1) := by decide +kernel
theorem d_TrustDeskModel_idle_128 : decode kY_TrustDeskModel_idle.2.1 128 = .ok (.iinc 4 1, 3) := by decide +kernel
theorem d_TrustDeskModel_idle_131 : decode kY_TrustDeskModel_idle.2.1 131 = .ok (.goto (-126), 3) := by decide +kernel
theorem d_TrustDeskModel_idle_98 : decode kY_TrustDeskModel_idle.2.1 98 = .ok (.iload 8, 2) := by decide +kernel
theorem d_TrustDeskModel_idle_100 : decode kY_TrustDeskModel_idle.2.1 100 = .ok (.invokestatic 444, 3) := by decide +kernel
theorem d_TrustDeskModel_idle_103 : decode kY_TrustDeskModel_idle.2.1 103 = .ok (.aload_n 0, 1) := by decide +kernel
theorem d_TrustDeskModel_idle_104 : decode kY_TrustDeskModel_idle.2.1 104 = .ok (.aload_n 0, 1) := by decide +kernel
theorem d_TrustDeskModel_idle_105 : decode kY_TrustDeskModel_idle.2.1 105 = .ok (.getfield 164, 3) := by decide +kernel
theorem d_TrustDeskModel_idle_108 : decode kY_TrustDeskModel_idle.2.1 108 = .ok (.iconst 1, 1) := by decide +kernel
theorem d_TrustDeskModel_idle_109 : decode kY_TrustDeskModel_idle.2.1 109 = .ok (.invokevirtual 396, 3) := by decide +kernel
theorem d_TrustDeskModel_idle_112 : decode kY_TrustDeskModel_idle.2.1 112 = .ok (.if_icmp .ge 7, 3) := by decide +kernel
theorem d_TrustDeskModel_idle_115 : decode kY_TrustDeskModel_idle.2.1 115 = .ok (.ldc2_w 563, 3) := by decide +kernel
theorem k_TrustDeskModel_563 : Cond.constantLong "TrustDeskModel" 563 (-2) ∈ mj_T := (mj_in1 (List.mem_of_getElem? (i := 2034) (by decide +kernel)) rfl)
theorem d_TrustDeskModel_idle_118 : decode kY_TrustDeskModel_idle.2.1 118 = .ok (.lreturn, 1) := by decide +kernel
theorem d_TrustDeskModel_idle_35 : decode kY_TrustDeskModel_idle.2.1 35 = .ok (.aload_n 0, 1) := by decide +kernel
theorem d_TrustDeskModel_idle_36 : decode kY_TrustDeskModel_idle.2.1 36 = .ok (.getfield 560, 3) := by decide +kernel
theorem d_TrustDeskModel_idle_39 : decode kY_TrustDeskModel_idle.2.1 39 = .ok (.iload 9, 2) := by decide +kernel
theorem d_TrustDeskModel_idle_41 : decode kY_TrustDeskModel_idle.2.1 41 = .ok (.ishr, 1) := by decide +kernel
theorem d_TrustDeskModel_idle_42 : decode kY_TrustDeskModel_idle.2.1 42 = .ok (.iconst 1, 1) := by decide +kernel
theorem d_TrustDeskModel_idle_43 : decode kY_TrustDeskModel_idle.2.1 43 = .ok (.iand, 1) := by decide +kernel
theorem d_TrustDeskModel_idle_44 : decode kY_TrustDeskModel_idle.2.1 44 = .ok (.ifCond .eq 42, 3) := by decide +kernel
theorem d_TrustDeskModel_idle_86 : decode kY_TrustDeskModel_idle.2.1 86 = .ok (.iinc 9 1, 3) := by decide +kernel
theorem d_TrustDeskModel_idle_89 : decode kY_TrustDeskModel_idle.2.1 89 = .ok (.goto (-63), 3) := by decide +kernel
theorem d_TrustDeskModel_idle_47 : decode kY_TrustDeskModel_idle.2.1 47 = .ok (.aload_n 1, 1) := by decide +kernel
theorem d_TrustDeskModel_idle_48 : decode kY_TrustDeskModel_idle.2.1 48 = .ok (.iload 9, 2) := by decide +kernel
theorem d_TrustDeskModel_idle_50 : decode kY_TrustDeskModel_idle.2.1 50 = .ok (.iaload, 1) := by decide +kernel
theorem d_TrustDeskModel_idle_51 : decode kY_TrustDeskModel_idle.2.1 51 = .ok (.iload 4, 2) := by decide +kernel
theorem d_TrustDeskModel_idle_53 : decode kY_TrustDeskModel_idle.2.1 53 = .ok (.if_icmp .eq 6, 3) := by decide +kernel
theorem d_TrustDeskModel_idle_59 : decode kY_TrustDeskModel_idle.2.1 59 = .ok (.lload 5, 2) := by decide +kernel
theorem d_TrustDeskModel_idle_61 : decode kY_TrustDeskModel_idle.2.1 61 = .ok (.aload_n 0, 1) := by decide +kernel
theorem d_TrustDeskModel_idle_62 : decode kY_TrustDeskModel_idle.2.1 62 = .ok (.getfield 149, 3) := by decide +kernel
theorem d_TrustDeskModel_idle_65 : decode kY_TrustDeskModel_idle.2.1 65 = .ok (.iload 9, 2) := by decide +kernel
theorem d_TrustDeskModel_idle_67 : decode kY_TrustDeskModel_idle.2.1 67 = .ok (.laload, 1) := by decide +kernel
theorem d_TrustDeskModel_idle_68 : decode kY_TrustDeskModel_idle.2.1 68 = .ok (.ladd, 1) := by decide +kernel
theorem d_TrustDeskModel_idle_69 : decode kY_TrustDeskModel_idle.2.1 69 = .ok (.lstore 5, 2) := by decide +kernel
theorem d_TrustDeskModel_idle_71 : decode kY_TrustDeskModel_idle.2.1 71 = .ok (.iload 8, 2) := by decide +kernel
theorem d_TrustDeskModel_idle_73 : decode kY_TrustDeskModel_idle.2.1 73 = .ok (.aload_n 0, 1) := by decide +kernel
theorem d_TrustDeskModel_idle_74 : decode kY_TrustDeskModel_idle.2.1 74 = .ok (.getfield 76, 3) := by decide +kernel
theorem d_TrustDeskModel_idle_77 : decode kY_TrustDeskModel_idle.2.1 77 = .ok (.iload 9, 2) := by decide +kernel
theorem d_TrustDeskModel_idle_79 : decode kY_TrustDeskModel_idle.2.1 79 = .ok (.iaload, 1) := by decide +kernel
theorem d_TrustDeskModel_idle_80 : decode kY_TrustDeskModel_idle.2.1 80 = .ok (.iand, 1) := by decide +kernel
theorem d_TrustDeskModel_idle_81 : decode kY_TrustDeskModel_idle.2.1 81 = .ok (.istore 8, 2) := by decide +kernel
theorem d_TrustDeskModel_idle_83 : decode kY_TrustDeskModel_idle.2.1 83 = .ok (.iinc 7 1, 3) := by decide +kernel
theorem d_TrustDeskModel_idle_56 : decode kY_TrustDeskModel_idle.2.1 56 = .ok (.goto 30, 3) := by decide +kernel
def w_TrustDeskModel_idle_q64_x : List Nat := []
set_option maxHeartbeats 100000000 in theorem tc_TrustDeskModel_idle_q64_x {g : mj_G} {l : Launch} {d : Nat} {T0 : tm_H} {M0 : mj_M} {n0 x9 : Nat} {o0 : Nat} {o1 : Nat} (h_o0 : T0 o0 = some (0, 13, 0)) (h_o1 : T0 o1 = some (1, 160512, 12)) (yR : rI M0 o0) (y8 : ∀ i : Nat, i < 880 → 0 ≤ ra M0 o0 8 i) (I0 : tm_I tm_FT (tm_in w_TrustDeskModel_idle_q64_x) x9 T0 M0 n0 T0 M0 n0) : mj_Met g l kY_TrustDeskModel_idle (d + 2) [.ref o0, .ref o1] M0 n0 0 0 (tm_Q tm_FT (tm_in w_TrustDeskModel_idle_q64_x) x9 T0 M0 n0 (fun r _ M => ∃ v : Int64, r = some (.long v) ∧ rI M o0)) := by
  refine mj_enter (by decide) (Nat.le_of_ble_eq_true rfl) ?_
  have K1 : ∀ i : Nat, i < 880 → 0 ≤ ra M0 o0 8 i := y8
  refine mv_lconst (v := 0) d_TrustDeskModel_idle_0 (by decide) ?_
  refine mv_lstore_n (lv' := [(2, .long 0), (0, .ref o0), (1, .ref o1)]) d_TrustDeskModel_idle_1 rfl (by decide) rfl ?_
  refine mv_iconst (v := 0) d_TrustDeskModel_idle_2 (by decide) ?_
  refine mv_istore (lv' := [(4, .int 0), (2, .long 0), (0, .ref o0), (1, .ref o1)]) d_TrustDeskModel_idle_3 (by decide) rfl ?_
  have L5_2 : ∀ (k : Nat) (i4_2 : Int32) (l2_2 : Int64) (T_2 : tm_H) (M_2 : mj_M) (n_2 : Nat), tm_I tm_FT (tm_in w_TrustDeskModel_idle_q64_x) x9 T0 M0 n0 T_2 M_2 n_2 → T_2 o0 = some (0, 13, 0) → T_2 o1 = some (1, 160512, 12) → 0 ≤ i4_2.toInt → (rI M_2 o0) → (∀ i : Nat, i < 880 → 0 ≤ ra M_2 o0 8 i) → 2147483647 - i4_2.toInt < (k : Int) → mj_V g l kY_TrustDeskModel_idle (d + 2) 5 [(4, .int i4_2), (2, .long l2_2), (0, .ref o0), (1, .ref o1)] [] M_2 n_2 0 0 (tm_Q tm_FT (tm_in w_TrustDeskModel_idle_q64_x) x9 T0 M0 n0 (fun r _ M => ∃ v : Int64, r = some (.long v) ∧ rI M o0)) := by
    intro k2
    induction k2 with
    | zero =>
      intro i4_2 l2_2 T_2 M_2 n_2 I_2 h_q0_2 h_q1_2 iv0_2 kKR_2 kK8_2 hk2
      have := mz_hi i4_2
      have := kKR_2.1 15 _ _ rfl
      have := kKR_2.1 16 _ _ rfl
      have := kKR_2.1 19 _ _ rfl
      omega
    | succ k2 ih2 =>
      intro i4_2 l2_2 T_2 M_2 n_2 I_2 h_q0_2 h_q1_2 iv0_2 kKR_2 kK8_2 hk2
      refine mv_iload d_TrustDeskModel_idle_5 rfl ?_
      refine mv_bipush (v := 8) d_TrustDeskModel_idle_7 (by decide) ?_
      have := mz_hi i4_2
      refine mv_icmp_geZ (tgt := 134) (a := i4_2.toInt) (b := 8) d_TrustDeskModel_idle_9 (by decide) rfl (by decide) (fun b3 => ?_) (fun b3 => ?_)
      · refine mv_lload_n d_TrustDeskModel_idle_134 rfl rfl ?_
        exact mv_lret d_TrustDeskModel_idle_135 rfl ⟨_, I_2, _, rfl, kKR_2⟩
      · refine mv_lconst (v := 0) d_TrustDeskModel_idle_12 (by decide) ?_
        refine mv_lstore (lv' := [(5, .long 0), (4, .int i4_2), (2, .long l2_2), (0, .ref o0), (1, .ref o1)]) d_TrustDeskModel_idle_13 (by decide) rfl ?_
        refine mv_iconst (v := 0) d_TrustDeskModel_idle_15 (by decide) ?_
        refine mv_istore (lv' := [(7, .int 0), (5, .long 0), (4, .int i4_2), (2, .long l2_2), (0, .ref o0), (1, .ref o1)]) d_TrustDeskModel_idle_16 (by decide) rfl ?_
        refine mv_sipush (v := 255) d_TrustDeskModel_idle_18 (by decide) ?_
        refine mv_istore (lv' := [(8, .int 255), (7, .int 0), (5, .long 0), (4, .int i4_2), (2, .long l2_2), (0, .ref o0), (1, .ref o1)]) d_TrustDeskModel_idle_21 (by decide) rfl ?_
        refine mv_iconst (v := 0) d_TrustDeskModel_idle_23 (by decide) ?_
        refine mv_istore (lv' := [(9, .int 0), (8, .int 255), (7, .int 0), (5, .long 0), (4, .int i4_2), (2, .long l2_2), (0, .ref o0), (1, .ref o1)]) d_TrustDeskModel_idle_24 (by decide) rfl ?_
        have L26_4 : ∀ (k : Nat) (i9_4 : Int32) (i8_4 : Int32) (i7_4 : Int32) (l5_4 : Int64) (T_4 : tm_H) (M_4 : mj_M) (n_4 : Nat), tm_I tm_FT (tm_in w_TrustDeskModel_idle_q64_x) x9 T0 M0 n0 T_4 M_4 n_4 → T_4 o0 = some (0, 13, 0) → T_4 o1 = some (1, 160512, 12) → 0 ≤ i9_4.toInt → (rI M_4 o0) → (∀ i : Nat, i < 880 → 0 ≤ ra M_4 o0 8 i) → 2147483647 - i9_4.toInt < (k : Int) → mj_V g l kY_TrustDeskModel_idle (d + 2) 26 [(9, .int i9_4), (8, .int i8_4), (7, .int i7_4), (5, .long l5_4), (4, .int i4_2), (2, .long l2_2), (0, .ref o0), (1, .ref o1)] [] M_4 n_4 0 0 (tm_Q tm_FT (tm_in w_TrustDeskModel_idle_q64_x) x9 T0 M0 n0 (fun r _ M => ∃ v : Int64, r = some (.long v) ∧ rI M o0)) := by
          intro k4
          induction k4 with
          | zero =>
            intro i9_4 i8_4 i7_4 l5_4 T_4 M_4 n_4 I_4 h_q0_4 h_q1_4 iv0_4 kKR_4 kK8_4 hk4
            have := mz_hi i9_4
            have := kKR_4.1 15 _ _ rfl
            have := kKR_4.1 16 _ _ rfl
            have := kKR_4.1 19 _ _ rfl
            omega
          | succ k4 ih4 =>
            intro i9_4 i8_4 i7_4 l5_4 T_4 M_4 n_4 I_4 h_q0_4 h_q1_4 iv0_4 kKR_4 kK8_4 hk4
            refine mv_iload d_TrustDeskModel_idle_26 rfl ?_
            refine mv_aload_n d_TrustDeskModel_idle_28 rfl rfl ?_
            obtain ⟨v6, q5⟩ := tm_atI I_4 h_q0_4 (k := 32) rfl
            refine tr_getK q5 d_TrustDeskModel_idle_29 f_TrustDeskModel_415_13 ?_
            have := kKR_4.f (k := 32) q5 rfl
            have := mz_hi i9_4
            have := mz_hi v6
            refine mv_icmp_geZ (tgt := 92) (a := i9_4.toInt) (b := v6.toInt) d_TrustDeskModel_idle_32 (by decide) rfl rfl (fun b7 => ?_) (fun b7 => ?_)
            · refine mv_iload d_TrustDeskModel_idle_92 rfl ?_
              refine mv_iconst (v := 1) d_TrustDeskModel_idle_94 (by decide) ?_
              have := mz_hi i7_4
              refine mv_icmp_leZ (tgt := 119) (a := i7_4.toInt) (b := 1) d_TrustDeskModel_idle_95 (by decide) rfl (by decide) (fun b8 => ?_) (fun b8 => ?_)
              · refine mv_lload_n d_TrustDeskModel_idle_119 rfl rfl ?_
                refine mv_lconst (v := 0) d_TrustDeskModel_idle_120 (by decide) ?_
                refine mv_lload d_TrustDeskModel_idle_121 rfl ?_
                have : (0 : Int64).toInt = 0 := by decide
                obtain ⟨v9, b10, _, _, _⟩ := mz_max9L (0 : Int64) l5_4
                refine mv_mmax_long (v := v9) d_TrustDeskModel_idle_123 (mj_in1 (List.mem_of_getElem? (i := 2035) (by decide +kernel)) rfl) (Nat.le_of_ble_eq_true rfl) b10 ?_
                refine mv_ladd d_TrustDeskModel_idle_126 ?_
                refine mv_lstore_n (lv' := [(2, .long (l2_2 + v9)), (9, .int i9_4), (8, .int i8_4), (7, .int i7_4), (5, .long l5_4), (4, .int i4_2), (0, .ref o0), (1, .ref o1)]) d_TrustDeskModel_idle_127 rfl (by decide) rfl ?_
                refine mv_iinc (v := (i4_2 + 1)) (lv' := [(4, .int (i4_2 + 1)), (2, .long (l2_2 + v9)), (9, .int i9_4), (8, .int i8_4), (7, .int i7_4), (5, .long l5_4), (0, .ref o0), (1, .ref o1)]) d_TrustDeskModel_idle_128 rfl rfl (by decide) rfl ?_
                refine mv_goto (tgt := 5) d_TrustDeskModel_idle_131 (by decide) ?_
                refine mv_locals (lv' := [(4, .int (i4_2 + 1)), (2, .long (l2_2 + v9)), (0, .ref o0), (1, .ref o1)]) (by intro q hq; simp only [List.mem_cons, List.not_mem_nil, or_false] at hq; rcases hq with rfl | rfl | rfl | rfl <;> rfl) ?_
                have b11 : (i4_2 + 1).toInt = i4_2.toInt + 1 := mz_addn 1 1 (by decide) (by have := mz_lo i4_2; omega) (by have := mz_hi i4_2; omega)
                exact (ih2 (i4_2 + 1) (l2_2 + v9) T_4 M_4 n_4 I_4 h_q0_4 h_q1_4 (by first | omega | decide | exact fun h9 => absurd (by decide) h9) kKR_4 kK8_4 (by omega))
              · refine mv_iload d_TrustDeskModel_idle_98 rfl ?_
                refine mv_callS (kc' := 0) (ks' := 0) (As := [.int i8_4]) (st9 := [.int i8_4]) d_TrustDeskModel_idle_100 lS_TrustDeskModel_444 (tc_TrustDeskModel_size (d := (d + 1)) (x9 := x9) (x1 := i8_4)  I_4.start) rfl (Nat.le_of_ble_eq_true rfl) (Nat.le_of_ble_eq_true rfl) (Nat.le_of_ble_eq_true rfl) (hst := rfl) (fun b12r M13 n14 b12 => ?_)
                obtain ⟨T15, J16, v18, rfl⟩ := b12
                have I17 := I_4.call J16 (tm_sub (by decide)) (Or.inl rfl)
                have t19 := J16.up h_q0_4
                have t20 := J16.up h_q1_4
                have R21 := rI_call I_4 J16 (I_4.up h_o0) (fun _ _ => rfl) (fun _ _ => rfl) kKR_4
                have K22 : ∀ i : Nat, i < 880 → 0 ≤ ra M13 o0 8 i := (by have e9 := ((sA_c I_4 J16 (I_4.up h_o0) (by decide +kernel)) : sA [8] _ _ _) 8 rfl; rw [e9]; exact kK8_4)
                have q23 := J16.keep h_q0_4 (by decide) q5
                refine mv_aload_n d_TrustDeskModel_idle_103 rfl rfl ?_
                refine mv_aload_n d_TrustDeskModel_idle_104 rfl rfl ?_
                obtain ⟨v25, q24⟩ := tm_atI I17 t19 (k := 1) rfl
                refine tr_getK q24 d_TrustDeskModel_idle_105 f_TrustDeskModel_164_13 ?_
                have := R21.f (k := 1) q24 rfl
                refine mv_iconst (v := 1) d_TrustDeskModel_idle_108 (by decide) ?_
                obtain ⟨_, b32, -⟩ := I17.1 _ _ t19
                have : (1 : Int32).toInt = 1 := by decide
                refine mv_callV (kc' := 0) (ks' := 0) (As := [.int v25, .int 1]) (st9 := [.int 1, .int v25, .ref o0, .int v18]) d_TrustDeskModel_idle_109 lV_TrustDeskModel_396 b32 rfl (tc_TrustDeskModel_toldOn_x (d := d) (x9 := x9) (o0 := o0) (x1 := v25) (x2 := 1) t19 R21 K22 I17.start) rfl (Nat.le_of_ble_eq_true rfl) (Nat.le_of_ble_eq_true rfl) (Nat.le_of_ble_eq_true rfl) (hst := rfl) (fun b26r M27 n28 b26 => ?_)
                obtain ⟨T29, J30, v33, rfl, R34, f35⟩ := b26
                have I31 := I17.call J30 (tm_sub (by decide)) (Or.inl rfl)
                have t36 := J30.up t19
                have t37 := J30.up t20
                have K38 : ∀ i : Nat, i < 880 → 0 ≤ ra M27 o0 8 i := (by have e9 := ((sA_c I17 J30 (I17.up h_o0) (by decide +kernel)) : sA [8] _ _ _) 8 rfl; rw [e9]; exact K22)
                have q39 := J30.keep t19 (by decide) q23
                have q40 := J30.keep t19 (by decide) q24
                have := mz_hi v18
                have := mz_hi v33
                refine mv_icmp_geZ (tgt := 119) (a := v18.toInt) (b := v33.toInt) d_TrustDeskModel_idle_112 (by decide) rfl rfl (fun b41 => ?_) (fun b41 => ?_)
                · refine mv_lload_n d_TrustDeskModel_idle_119 rfl rfl ?_
                  refine mv_lconst (v := 0) d_TrustDeskModel_idle_120 (by decide) ?_
                  refine mv_lload d_TrustDeskModel_idle_121 rfl ?_
                  have : (0 : Int64).toInt = 0 := by decide
                  obtain ⟨v42, b43, _, _, _⟩ := mz_max9L (0 : Int64) l5_4
                  refine mv_mmax_long (v := v42) d_TrustDeskModel_idle_123 (mj_in1 (List.mem_of_getElem? (i := 2035) (by decide +kernel)) rfl) (Nat.le_of_ble_eq_true rfl) b43 ?_
                  refine mv_ladd d_TrustDeskModel_idle_126 ?_
                  refine mv_lstore_n (lv' := [(2, .long (l2_2 + v42)), (9, .int i9_4), (8, .int i8_4), (7, .int i7_4), (5, .long l5_4), (4, .int i4_2), (0, .ref o0), (1, .ref o1)]) d_TrustDeskModel_idle_127 rfl (by decide) rfl ?_
                  refine mv_iinc (v := (i4_2 + 1)) (lv' := [(4, .int (i4_2 + 1)), (2, .long (l2_2 + v42)), (9, .int i9_4), (8, .int i8_4), (7, .int i7_4), (5, .long l5_4), (0, .ref o0), (1, .ref o1)]) d_TrustDeskModel_idle_128 rfl rfl (by decide) rfl ?_
                  refine mv_goto (tgt := 5) d_TrustDeskModel_idle_131 (by decide) ?_
                  refine mv_locals (lv' := [(4, .int (i4_2 + 1)), (2, .long (l2_2 + v42)), (0, .ref o0), (1, .ref o1)]) (by intro q hq; simp only [List.mem_cons, List.not_mem_nil, or_false] at hq; rcases hq with rfl | rfl | rfl | rfl <;> rfl) ?_
                  have b44 : (i4_2 + 1).toInt = i4_2.toInt + 1 := mz_addn 1 1 (by decide) (by have := mz_lo i4_2; omega) (by have := mz_hi i4_2; omega)
                  exact (ih2 (i4_2 + 1) (l2_2 + v42) T29 M27 n28 I31 t36 t37 (by first | omega | decide | exact fun h9 => absurd (by decide) h9) R34 K38 (by omega))
                · refine mv_ldc2 d_TrustDeskModel_idle_115 k_TrustDeskModel_563 ?_
                  exact mv_lret d_TrustDeskModel_idle_118 rfl ⟨_, I31, _, rfl, R34⟩
            · refine mv_aload_n d_TrustDeskModel_idle_35 rfl rfl ?_
              obtain ⟨v46, q45⟩ := tm_atI I_4 h_q0_4 (k := 67) rfl
              refine tr_getK q45 d_TrustDeskModel_idle_36 f_TrustDeskModel_560_13 ?_
              refine mv_iload d_TrustDeskModel_idle_39 rfl ?_
              refine mv_ishr d_TrustDeskModel_idle_41 ?_
              refine mv_iconst (v := 1) d_TrustDeskModel_idle_42 (by decide) ?_
              refine mv_iand d_TrustDeskModel_idle_43 ?_
              have := mz_hi ((v46 >>> (i9_4 &&& 31)) &&& 1)
              refine mv_if_eqZ (tgt := 86) (a := ((v46 >>> (i9_4 &&& 31)) &&& 1).toInt) d_TrustDeskModel_idle_44 (by decide) rfl (fun b47 => ?_) (fun b47 => ?_)
              · refine mv_iinc (v := (i9_4 + 1)) (lv' := [(9, .int (i9_4 + 1)), (8, .int i8_4), (7, .int i7_4), (5, .long l5_4), (4, .int i4_2), (2, .long l2_2), (0, .ref o0), (1, .ref o1)]) d_TrustDeskModel_idle_86 rfl rfl (by decide) rfl ?_
                refine mv_goto (tgt := 26) d_TrustDeskModel_idle_89 (by decide) ?_
                have b48 : (i9_4 + 1).toInt = i9_4.toInt + 1 := mz_addn 1 1 (by decide) (by have := mz_lo i9_4; omega) (by have := mz_hi i9_4; omega)
                exact (ih4 (i9_4 + 1) i8_4 i7_4 l5_4 T_4 M_4 n_4 I_4 h_q0_4 h_q1_4 (by first | omega | decide | exact fun h9 => absurd (by decide) h9) kKR_4 kK8_4 (by omega))
              · refine mv_aload_n d_TrustDeskModel_idle_47 rfl rfl ?_
                refine mv_iload d_TrustDeskModel_idle_48 rfl ?_
                refine tr_iald I_4 h_q1_4 (by decide) d_TrustDeskModel_idle_50 (vp_in_iff.mpr (by omega)) (fun v49 => ?_)
                refine mv_iload d_TrustDeskModel_idle_51 rfl ?_
                have := mz_hi v49
                have := mz_hi i4_2
                refine mv_icmp_eqZ (tgt := 59) (a := v49.toInt) (b := i4_2.toInt) d_TrustDeskModel_idle_53 (by decide) rfl rfl (fun b50 => ?_) (fun b50 => ?_)
                · refine mv_lload d_TrustDeskModel_idle_59 rfl ?_
                  refine mv_aload_n d_TrustDeskModel_idle_61 rfl rfl ?_
                  obtain ⟨a52, q51, t_a52⟩ := tm_atR I_4 h_q0_4 (k := 63) rfl
                  refine tr_getK q51 d_TrustDeskModel_idle_62 f_TrustDeskModel_149_13 ?_
                  refine mv_iload d_TrustDeskModel_idle_65 rfl ?_
                  refine tr_laldR (o := o0) (k := 63) I_4 q51 t_a52 (by decide) d_TrustDeskModel_idle_67 (vp_in_iff.mpr (by omega)) (fun v53 e54 => ?_)
                  refine mv_ladd d_TrustDeskModel_idle_68 ?_
                  refine mv_lstore (lv' := [(5, .long (l5_4 + v53)), (9, .int i9_4), (8, .int i8_4), (7, .int i7_4), (4, .int i4_2), (2, .long l2_2), (0, .ref o0), (1, .ref o1)]) d_TrustDeskModel_idle_69 (by decide) rfl ?_
                  refine mv_iload d_TrustDeskModel_idle_71 rfl ?_
                  refine mv_aload_n d_TrustDeskModel_idle_73 rfl rfl ?_
                  obtain ⟨a56, q55, t_a56⟩ := tm_atR I_4 h_q0_4 (k := 36) rfl
                  refine tr_getK q55 d_TrustDeskModel_idle_74 f_TrustDeskModel_76_13 ?_
                  refine mv_iload d_TrustDeskModel_idle_77 rfl ?_
                  refine tr_ialdR (o := o0) (k := 36) I_4 q55 t_a56 (by decide) d_TrustDeskModel_idle_79 (vp_in_iff.mpr (by omega)) (fun v57 e58 => ?_)
                  refine mv_iand d_TrustDeskModel_idle_80 ?_
                  refine mv_istore (lv' := [(8, .int (i8_4 &&& v57)), (5, .long (l5_4 + v53)), (9, .int i9_4), (7, .int i7_4), (4, .int i4_2), (2, .long l2_2), (0, .ref o0), (1, .ref o1)]) d_TrustDeskModel_idle_81 (by decide) rfl ?_
                  refine mv_iinc (v := (i7_4 + 1)) (lv' := [(7, .int (i7_4 + 1)), (8, .int (i8_4 &&& v57)), (5, .long (l5_4 + v53)), (9, .int i9_4), (4, .int i4_2), (2, .long l2_2), (0, .ref o0), (1, .ref o1)]) d_TrustDeskModel_idle_83 rfl rfl (by decide) rfl ?_
                  refine mv_iinc (v := (i9_4 + 1)) (lv' := [(9, .int (i9_4 + 1)), (7, .int (i7_4 + 1)), (8, .int (i8_4 &&& v57)), (5, .long (l5_4 + v53)), (4, .int i4_2), (2, .long l2_2), (0, .ref o0), (1, .ref o1)]) d_TrustDeskModel_idle_86 rfl rfl (by decide) rfl ?_
                  refine mv_goto (tgt := 26) d_TrustDeskModel_idle_89 (by decide) ?_
                  refine mv_locals (lv' := [(9, .int (i9_4 + 1)), (8, .int (i8_4 &&& v57)), (7, .int (i7_4 + 1)), (5, .long (l5_4 + v53)), (4, .int i4_2), (2, .long l2_2), (0, .ref o0), (1, .ref o1)]) (by intro q hq; simp only [List.mem_cons, List.not_mem_nil, or_false] at hq; rcases hq with rfl | rfl | rfl | rfl | rfl | rfl | rfl | rfl <;> rfl) ?_
                  have b59 : (i9_4 + 1).toInt = i9_4.toInt + 1 := mz_addn 1 1 (by decide) (by have := mz_lo i9_4; omega) (by have := mz_hi i9_4; omega)
                  exact (ih4 (i9_4 + 1) (i8_4 &&& v57) (i7_4 + 1) (l5_4 + v53) T_4 M_4 n_4 I_4 h_q0_4 h_q1_4 (by first | omega | decide | exact fun h9 => absurd (by decide) h9) kKR_4 kK8_4 (by omega))
                · refine mv_goto (tgt := 86) d_TrustDeskModel_idle_56 (by decide) ?_
                  refine mv_iinc (v := (i9_4 + 1)) (lv' := [(9, .int (i9_4 + 1)), (8, .int i8_4), (7, .int i7_4), (5, .long l5_4), (4, .int i4_2), (2, .long l2_2), (0, .ref o0), (1, .ref o1)]) d_TrustDeskModel_idle_86 rfl rfl (by decide) rfl ?_
                  refine mv_goto (tgt := 26) d_TrustDeskModel_idle_89 (by decide) ?_
                  have b60 : (i9_4 + 1).toInt = i9_4.toInt + 1 := mz_addn 1 1 (by decide) (by have := mz_lo i9_4; omega) (by have := mz_hi i9_4; omega)
                  exact (ih4 (i9_4 + 1) i8_4 i7_4 l5_4 T_4 M_4 n_4 I_4 h_q0_4 h_q1_4 (by first | omega | decide | exact fun h9 => absurd (by decide) h9) kKR_4 kK8_4 (by omega))
        have : (0 : Int32).toInt = 0 := by decide
        have : (255 : Int32).toInt = 255 := by decide
        exact mv_less (Nat.zero_le _) (Nat.zero_le _) (L26_4 4294967296 0 255 0 0 T_2 M_2 n_2 I_2 h_q0_2 h_q1_2 (by first | omega | decide | exact fun h9 => absurd (by decide) h9) kKR_2 kK8_2 (by show (2147483647 - (0 : Int) : Int) < _; decide))
  have : (0 : Int32).toInt = 0 := by decide
  exact mv_less (Nat.zero_le _) (Nat.zero_le _) (L5_2 4294967296 0 0 T0 M0 n0 I0 h_o0 h_o1 (by first | omega | decide | exact fun h9 => absurd (by decide) h9) yR K1 (by show (2147483647 - (0 : Int) : Int) < _; decide))
theorem lV_TrustDeskModel_567 : mj_lV "TrustDeskModel" 567 kY_TrustDeskModel_idle 1 := ⟨⟨(mj_in1 (List.mem_of_getElem? (i := 2030) (by decide +kernel)) rfl), (mj_in1 (List.mem_of_getElem? (i := 10) (by decide +kernel)) rfl), (mj_in1 (List.mem_of_getElem? (i := 2033) (by decide +kernel)) rfl), by decide, rfl, by decide⟩, (mj_in1 (List.mem_of_getElem? (i := 2032) (by decide +kernel)) rfl), (mj_in (List.mem_append_left _ (List.mem_of_getElem? (i := 142) (by decide +kernel))) rfl)⟩
theorem d_TrustDeskModel_counts_16 : decode kY_TrustDeskModel_counts.2.1 16 = .ok (.lstore_n 3, 1) := by decide +kernel
theorem d_TrustDeskModel_counts_17 : decode kY_TrustDeskModel_counts.2.1 17 = .ok (.lload_n 3, 1) := by decide +kernel
theorem d_TrustDeskModel_counts_18 : decode kY_TrustDeskModel_counts.2.1 18 = .ok (.lconst 0, 1) := by decide +kernel
theorem d_TrustDeskModel_counts_19 : decode kY_TrustDeskModel_counts.2.1 19 = .ok (.lcmp, 1) := by decide +kernel
theorem d_TrustDeskModel_counts_20 : decode kY_TrustDeskModel_counts.2.1 20 = .ok (.ifCond .lt 36, 3) := by decide +kernel
theorem d_TrustDeskModel_counts_56 : decode kY_TrustDeskModel_counts.2.1 56 = .ok (.return_, 1) := by decide +kernel
theorem d_TrustDeskModel_counts_23 : decode kY_TrustDeskModel_counts.2.1 23 = .ok (.aload_n 0, 1) := by decide +kernel
theorem d_TrustDeskModel_counts_24 : decode kY_TrustDeskModel_counts.2.1 24 = .ok (.getfield 571, 3) := by decide +kernel
theorem f_TrustDeskModel_571_13 : mj_fl "TrustDeskModel" 571 13 69 := ⟨kR_TrustDeskModel, kF_TrustDeskModel, 72, "TrustDeskModel", rfl, kg_13, by decide, (mj_in1 (List.mem_of_getElem? (i := 1455) (by decide +kernel)) rfl), Or.inl rfl⟩
theorem d_TrustDeskModel_counts_27 : decode kY_TrustDeskModel_counts.2.1 27 = .ok (.ifCond .eq 30, 3) := by decide +kernel
theorem d_TrustDeskModel_counts_57 : decode kY_TrustDeskModel_counts.2.1 57 = .ok (.aload_n 0, 1) := by decide +kernel
theorem d_TrustDeskModel_counts_58 : decode kY_TrustDeskModel_counts.2.1 58 = .ok (.lload_n 3, 1) := by decide +kernel
theorem d_TrustDeskModel_counts_59 : decode kY_TrustDeskModel_counts.2.1 59 = .ok (.putfield 574, 3) := by decide +kernel
theorem d_TrustDeskModel_counts_62 : decode kY_TrustDeskModel_counts.2.1 62 = .ok (.aload_n 0, 1) := by decide +kernel
theorem d_TrustDeskModel_counts_63 : decode kY_TrustDeskModel_counts.2.1 63 = .ok (.iload_n 2, 1) := by decide +kernel
theorem d_TrustDeskModel_counts_64 : decode kY_TrustDeskModel_counts.2.1 64 = .ok (.putfield 571, 3) := by decide +kernel
theorem d_TrustDeskModel_counts_67 : decode kY_TrustDeskModel_counts.2.1 67 = .ok (.iconst 0, 1) := by decide +kernel
theorem d_TrustDeskModel_counts_68 : decode kY_TrustDeskModel_counts.2.1 68 = .ok (.istore 5, 2) := by decide +kernel
theorem d_TrustDeskModel_counts_70 : decode kY_TrustDeskModel_counts.2.1 70 = .ok (.iload 5, 2) := by decide +kernel
theorem d_TrustDeskModel_counts_72 : decode kY_TrustDeskModel_counts.2.1 72 = .ok (.bipush 12, 2) := by decide +kernel
theorem d_TrustDeskModel_counts_74 : decode kY_TrustDeskModel_counts.2.1 74 = .ok (.if_icmp .ge 23, 3) := by decide +kernel
theorem d_TrustDeskModel_counts_97 : decode kY_TrustDeskModel_counts.2.1 97 = .ok (.return_, 1) := by decide +kernel
theorem d_TrustDeskModel_counts_77 : decode kY_TrustDeskModel_counts.2.1 77 = .ok (.aload_n 0, 1) := by decide +kernel
theorem d_TrustDeskModel_counts_78 : decode kY_TrustDeskModel_counts.2.1 78 = .ok (.getfield 155, 3) := by decide +kernel
theorem f_TrustDeskModel_155_13 : mj_fl "TrustDeskModel" 155 13 65 := ⟨kR_TrustDeskModel, kF_TrustDeskModel, 72, "TrustDeskModel", rfl, kg_13, by decide, (mj_in1 (List.mem_of_getElem? (i := 1451) (by decide +kernel)) rfl), Or.inl rfl⟩
theorem d_TrustDeskModel_counts_81 : decode kY_TrustDeskModel_counts.2.1 81 = .ok (.iload 5, 2) := by decide +kernel
theorem d_TrustDeskModel_counts_83 : decode kY_TrustDeskModel_counts.2.1 83 = .ok (.aload_n 0, 1) := by decide +kernel
theorem d_TrustDeskModel_counts_84 : decode kY_TrustDeskModel_counts.2.1 84 = .ok (.getfield 152, 3) := by decide +kernel
theorem d_TrustDeskModel_counts_87 : decode kY_TrustDeskModel_counts.2.1 87 = .ok (.iload 5, 2) := by decide +kernel
theorem d_TrustDeskModel_counts_89 : decode kY_TrustDeskModel_counts.2.1 89 = .ok (.iaload, 1) := by decide +kernel
theorem d_TrustDeskModel_counts_90 : decode kY_TrustDeskModel_counts.2.1 90 = .ok (.iastore, 1) := by decide +kernel
theorem d_TrustDeskModel_counts_91 : decode kY_TrustDeskModel_counts.2.1 91 = .ok (.iinc 5 1, 3) := by decide +kernel
theorem d_TrustDeskModel_counts_94 : decode kY_TrustDeskModel_counts.2.1 94 = .ok (.goto (-24), 3) := by decide +kernel
theorem d_TrustDeskModel_counts_30 : decode kY_TrustDeskModel_counts.2.1 30 = .ok (.lload_n 3, 1) := by decide +kernel
theorem d_TrustDeskModel_counts_31 : decode kY_TrustDeskModel_counts.2.1 31 = .ok (.aload_n 0, 1) := by decide +kernel
theorem d_TrustDeskModel_counts_32 : decode kY_TrustDeskModel_counts.2.1 32 = .ok (.getfield 574, 3) := by decide +kernel
theorem f_TrustDeskModel_574_13 : mj_fl "TrustDeskModel" 574 13 68 := ⟨kR_TrustDeskModel, kF_TrustDeskModel, 72, "TrustDeskModel", rfl, kg_13, by decide, (mj_in1 (List.mem_of_getElem? (i := 1454) (by decide +kernel)) rfl), Or.inl rfl⟩
theorem d_TrustDeskModel_counts_35 : decode kY_TrustDeskModel_counts.2.1 35 = .ok (.lcmp, 1) := by decide +kernel
theorem d_TrustDeskModel_counts_36 : decode kY_TrustDeskModel_counts.2.1 36 = .ok (.ifCond .gt 20, 3) := by decide +kernel
theorem d_TrustDeskModel_counts_39 : decode kY_TrustDeskModel_counts.2.1 39 = .ok (.lload_n 3, 1) := by decide +kernel
theorem d_TrustDeskModel_counts_40 : decode kY_TrustDeskModel_counts.2.1 40 = .ok (.aload_n 0, 1) := by decide +kernel
theorem d_TrustDeskModel_counts_41 : decode kY_TrustDeskModel_counts.2.1 41 = .ok (.getfield 574, 3) := by decide +kernel
theorem d_TrustDeskModel_counts_44 : decode kY_TrustDeskModel_counts.2.1 44 = .ok (.lcmp, 1) := by decide +kernel
theorem d_TrustDeskModel_counts_45 : decode kY_TrustDeskModel_counts.2.1 45 = .ok (.ifCond .ne 12, 3) := by decide +kernel
theorem d_TrustDeskModel_counts_48 : decode kY_TrustDeskModel_counts.2.1 48 = .ok (.iload_n 2, 1) := by decide +kernel
theorem d_TrustDeskModel_counts_49 : decode kY_TrustDeskModel_counts.2.1 49 = .ok (.aload_n 0, 1) := by decide +kernel
theorem d_TrustDeskModel_counts_50 : decode kY_TrustDeskModel_counts.2.1 50 = .ok (.getfield 571, 3) := by decide +kernel
theorem d_TrustDeskModel_counts_53 : decode kY_TrustDeskModel_counts.2.1 53 = .ok (.if_icmp .lt 4, 3) := by decide +kernel
def w_TrustDeskModel_counts_q0_x : List Nat := [1368, 1369, 20065]
set_option maxHeartbeats 100000000 in theorem tc_TrustDeskModel_counts_q0_x {g : mj_G} {l : Launch} {d : Nat} {T0 : tm_H} {M0 : mj_M} {n0 x9 : Nat} {o0 : Nat} {x1 : Int32} {x2 : Int32} (h_o0 : T0 o0 = some (0, 13, 0)) (yR : rI M0 o0) (y8 : ∀ i : Nat, i < 880 → 0 ≤ ra M0 o0 8 i) (yl : 12 ≤ x1.toInt ∧ x1.toInt ≤ rv M0 o0 32 ∧ 0 ≤ x2.toInt ∧ x2.toInt ≤ x1.toInt) (I0 : tm_I tm_FT (tm_in w_TrustDeskModel_counts_q0_x) x9 T0 M0 n0 T0 M0 n0) : mj_Met g l kY_TrustDeskModel_counts (d + 3) [.ref o0, .int x1, .int x2] M0 n0 0 0 (tm_Q tm_FT (tm_in w_TrustDeskModel_counts_q0_x) x9 T0 M0 n0 (fun r _ M => r = none ∧ rI M o0)) := by
  refine mj_enter (by decide) (Nat.le_of_ble_eq_true rfl) ?_
  have K1 : ∀ i : Nat, i < 880 → 0 ≤ ra M0 o0 8 i := y8
  refine mv_iload_n d_TrustDeskModel_counts_0 rfl rfl ?_
  refine mv_aload_n d_TrustDeskModel_counts_1 rfl rfl ?_
  obtain ⟨v3, q2⟩ := tm_atI I0 h_o0 (k := 32) rfl
  refine tr_getK q2 d_TrustDeskModel_counts_2 f_TrustDeskModel_415_13 ?_
  have := yR.f (k := 32) q2 rfl
  have := tm_rv q2
  have := mz_hi x1
  refine mv_icmp_neZ (tgt := 98) (a := x1.toInt) (b := v3.toInt) d_TrustDeskModel_counts_5 (by decide) rfl rfl (fun b4 => ?_) (fun b4 => ?_)
  · exfalso
    have := yR.1 32 _ _ rfl; omega
  · refine mv_aload_n d_TrustDeskModel_counts_8 rfl rfl ?_
    refine mv_aload_n d_TrustDeskModel_counts_9 rfl rfl ?_
    obtain ⟨a6, q5, t_a6⟩ := tm_atR I0 h_o0 (k := 64) rfl
    refine tr_getK q5 d_TrustDeskModel_counts_10 f_TrustDeskModel_152_13 ?_
    obtain ⟨_, b13, -⟩ := I0.1 _ _ h_o0
    refine mv_callV (kc' := 0) (ks' := 0) (As := [.ref a6]) (st9 := [.ref a6, .ref o0]) d_TrustDeskModel_counts_13 lV_TrustDeskModel_567 b13 rfl (tc_TrustDeskModel_idle_q64_x (d := d) (x9 := x9) (o0 := o0) (o1 := a6) h_o0 t_a6 yR K1 I0.start) rfl (Nat.le_of_ble_eq_true rfl) (Nat.le_of_ble_eq_true rfl) (Nat.le_of_ble_eq_true rfl) (hst := rfl) (fun b7r M8 n9 b7 => ?_)
    obtain ⟨T10, J11, v14, rfl, R15⟩ := b7
    have I12 := I0.call J11 (tm_sub (by decide)) (Or.inl rfl)
    have t16 := J11.up h_o0
    have z17 := (rv_c I0 J11 (I0.up h_o0) (k := 32) rfl)
    have K18 : ∀ i : Nat, i < 880 → 0 ≤ ra M8 o0 8 i := (by have e9 := ((sA_c I0 J11 (I0.up h_o0) (by decide +kernel)) : sA [8] _ _ _) 8 rfl; rw [e9]; exact K1)
    have q19 := J11.keep h_o0 (by decide) q2
    have q20 := J11.keep h_o0 (by decide) q5
    have t21 := J11.up t_a6
    refine mv_lstore_n (lv' := [(3, .long v14), (0, .ref o0), (1, .int x1), (2, .int x2)]) d_TrustDeskModel_counts_16 rfl (by decide) rfl ?_
    refine mv_lload_n d_TrustDeskModel_counts_17 rfl rfl ?_
    refine mv_lconst (v := 0) d_TrustDeskModel_counts_18 (by decide) ?_
    refine mv_lltZ (tgt := 56) (a := v14.toInt) (b := 0) d_TrustDeskModel_counts_19 d_TrustDeskModel_counts_20 (by decide) rfl (by decide) (fun b22 => ?_) (fun b22 => ?_)
    · exact mv_vret d_TrustDeskModel_counts_56 rfl ⟨_, I12, rfl, R15⟩
    · refine mv_aload_n d_TrustDeskModel_counts_23 rfl rfl ?_
      obtain ⟨v24, q23⟩ := tm_atI I12 t16 (k := 69) rfl
      refine tr_getK q23 d_TrustDeskModel_counts_24 f_TrustDeskModel_571_13 ?_
      have := mz_hi v24
      refine mv_if_eqZ (tgt := 57) (a := v24.toInt) d_TrustDeskModel_counts_27 (by decide) rfl (fun b25 => ?_) (fun b25 => ?_)
      · refine mv_aload_n d_TrustDeskModel_counts_57 rfl rfl ?_
        refine mv_lload_n d_TrustDeskModel_counts_58 rfl rfl ?_
        refine tr_putR (k := 68) I12 R15 t16 rfl ⟨_, rfl⟩ (fun _ h => by cases h) rfl (fun lo hi h => by cases h) (Or.inl (by decide)) d_TrustDeskModel_counts_59 p_TrustDeskModel_574_13 rfl rfl (fun M26 I27 q28 K29 R30 A31 V32 => ?_)
        have z33 := (V32 32 (by decide)).trans z17
        have K34 : ∀ i : Nat, i < 880 → 0 ≤ ra M26 o0 8 i := (by have e9 := ((sA_f A31 (by decide)) : sA [8] _ _ _) 8 rfl; rw [e9]; exact K18)
        clear z17
        refine mv_aload_n d_TrustDeskModel_counts_62 rfl rfl ?_
        refine mv_iload_n d_TrustDeskModel_counts_63 rfl rfl ?_
        refine tr_putR (k := 69) I27 R30 t16 rfl ⟨_, rfl⟩ (fun _ h => by cases h) rfl (fun lo hi h => by cases h) (Or.inl (by decide)) d_TrustDeskModel_counts_64 p_TrustDeskModel_571_13 rfl rfl (fun M35 I36 q37 K38 R39 A40 V41 => ?_)
        have z42 := (V41 32 (by decide)).trans z33
        have K43 : ∀ i : Nat, i < 880 → 0 ≤ ra M35 o0 8 i := (by have e9 := ((sA_f A40 (by decide)) : sA [8] _ _ _) 8 rfl; rw [e9]; exact K34)
        clear z33
        refine mv_iconst (v := 0) d_TrustDeskModel_counts_67 (by decide) ?_
        refine mv_istore (lv' := [(5, .int 0), (3, .long v14), (0, .ref o0), (1, .int x1), (2, .int x2)]) d_TrustDeskModel_counts_68 (by decide) rfl ?_
        have L70_44 : ∀ (k : Nat) (i5_44 : Int32) (T_44 : tm_H) (M_44 : mj_M) (n_44 : Nat), tm_I tm_FT (tm_in w_TrustDeskModel_counts_q0_x) x9 T0 M0 n0 T_44 M_44 n_44 → T_44 o0 = some (0, 13, 0) → 0 ≤ i5_44.toInt → (rI M_44 o0) → (∀ i : Nat, i < 880 → 0 ≤ ra M_44 o0 8 i) → 2147483647 - i5_44.toInt < (k : Int) → mj_V g l kY_TrustDeskModel_counts (d + 3) 70 [(5, .int i5_44), (3, .long v14), (0, .ref o0), (1, .int x1), (2, .int x2)] [] M_44 n_44 0 0 (tm_Q tm_FT (tm_in w_TrustDeskModel_counts_q0_x) x9 T0 M0 n0 (fun r _ M => r = none ∧ rI M o0)) := by
          intro k44
          induction k44 with
          | zero =>
            intro i5_44 T_44 M_44 n_44 I_44 h_q0_44 iv0_44 kKR_44 kK8_44 hk44
            have := mz_hi i5_44
            have := kKR_44.1 15 _ _ rfl
            have := kKR_44.1 16 _ _ rfl
            have := kKR_44.1 19 _ _ rfl
            omega
          | succ k44 ih44 =>
            intro i5_44 T_44 M_44 n_44 I_44 h_q0_44 iv0_44 kKR_44 kK8_44 hk44
            refine mv_iload d_TrustDeskModel_counts_70 rfl ?_
            refine mv_bipush (v := 12) d_TrustDeskModel_counts_72 (by decide) ?_
            have := mz_hi i5_44
            refine mv_icmp_geZ (tgt := 97) (a := i5_44.toInt) (b := 12) d_TrustDeskModel_counts_74 (by decide) rfl (by decide) (fun b45 => ?_) (fun b45 => ?_)
            · exact mv_vret d_TrustDeskModel_counts_97 rfl ⟨_, I_44, rfl, kKR_44⟩
            · refine mv_aload_n d_TrustDeskModel_counts_77 rfl rfl ?_
              obtain ⟨a47, q46, t_a47⟩ := tm_atR I_44 h_q0_44 (k := 65) rfl
              refine tr_getK q46 d_TrustDeskModel_counts_78 f_TrustDeskModel_155_13 ?_
              refine mv_iload d_TrustDeskModel_counts_81 rfl ?_
              refine mv_aload_n d_TrustDeskModel_counts_83 rfl rfl ?_
              obtain ⟨a49, q48, t_a49⟩ := tm_atR I_44 h_q0_44 (k := 64) rfl
              refine tr_getK q48 d_TrustDeskModel_counts_84 f_TrustDeskModel_152_13 ?_
              refine mv_iload d_TrustDeskModel_counts_87 rfl ?_
              refine tr_ialdR (o := o0) (k := 64) I_44 q48 t_a49 (by decide) d_TrustDeskModel_counts_89 (vp_in_iff.mpr (by have := kKR_44.1 32 _ _ rfl; omega)) (fun v50 e51 => ?_)
              refine tr_iastR (k := 65) I_44 kKR_44 (I_44.up h_o0) q46 t_a47 (by decide) (by decide) (fun lo hi h => by cases h) (Or.inl (by decide)) d_TrustDeskModel_counts_90 (vp_in_iff.mpr (by have := kKR_44.1 32 _ _ rfl; omega)) (fun M52 I53 K54 R55 E56 A57 V58 => ?_)
              have z59 := (V58 32)
              have K60 : ∀ i : Nat, i < 880 → 0 ≤ ra M52 o0 8 i := (by have e9 := ((sA_a A57 (by decide +kernel)) : sA [8] _ _ _) 8 rfl; rw [e9]; exact kK8_44)
              refine mv_iinc (v := (i5_44 + 1)) (lv' := [(5, .int (i5_44 + 1)), (3, .long v14), (0, .ref o0), (1, .int x1), (2, .int x2)]) d_TrustDeskModel_counts_91 rfl rfl (by decide) rfl ?_
              refine mv_goto (tgt := 70) d_TrustDeskModel_counts_94 (by decide) ?_
              have b61 : (i5_44 + 1 : Int32).toInt = (i5_44.toInt + 1) := mz_add2 rfl (by decide) (by have := R55.1 32 _ _ rfl; omega) (by have := R55.1 32 _ _ rfl; omega)
              have b62 : (i5_44 + 1).toInt = i5_44.toInt + 1 := mz_addn 1 1 (by decide) (by have := mz_lo i5_44; omega) (by have := mz_hi i5_44; omega)
              exact (ih44 (i5_44 + 1) T_44 M52 n_44 I53 h_q0_44 (by have := R55.1 32 _ _ rfl; first | omega | decide | exact fun h9 => absurd (by decide) h9) R55 K60 (by have := R55.1 32 _ _ rfl; omega))
        have : (0 : Int32).toInt = 0 := by decide
        exact mv_less (Nat.zero_le _) (Nat.zero_le _) (L70_44 4294967296 0 T10 M35 n9 I36 t16 (by have := R39.1 32 _ _ rfl; first | omega | decide | exact fun h9 => absurd (by decide) h9) R39 K43 (by show (2147483647 - (0 : Int) : Int) < _; decide))
      · refine mv_lload_n d_TrustDeskModel_counts_30 rfl rfl ?_
        refine mv_aload_n d_TrustDeskModel_counts_31 rfl rfl ?_
        obtain ⟨v64, q63⟩ := tm_atL I12 t16 (k := 68) rfl
        refine tr_getK q63 d_TrustDeskModel_counts_32 f_TrustDeskModel_574_13 ?_
        refine mv_lgtZ (tgt := 56) (a := v14.toInt) (b := v64.toInt) d_TrustDeskModel_counts_35 d_TrustDeskModel_counts_36 (by decide) rfl rfl (fun b65 => ?_) (fun b65 => ?_)
        · exact mv_vret d_TrustDeskModel_counts_56 rfl ⟨_, I12, rfl, R15⟩
        · refine mv_lload_n d_TrustDeskModel_counts_39 rfl rfl ?_
          refine mv_aload_n d_TrustDeskModel_counts_40 rfl rfl ?_
          refine tr_getK (k := 68) q63 d_TrustDeskModel_counts_41 f_TrustDeskModel_574_13 ?_
          refine mv_lneZ (tgt := 57) (a := v14.toInt) (b := v64.toInt) d_TrustDeskModel_counts_44 d_TrustDeskModel_counts_45 (by decide) rfl rfl (fun b66 => ?_) (fun b66 => ?_)
          · refine mv_aload_n d_TrustDeskModel_counts_57 rfl rfl ?_
            refine mv_lload_n d_TrustDeskModel_counts_58 rfl rfl ?_
            refine tr_putR (k := 68) I12 R15 t16 rfl ⟨_, rfl⟩ (fun _ h => by cases h) rfl (fun lo hi h => by cases h) (Or.inl (by decide)) d_TrustDeskModel_counts_59 p_TrustDeskModel_574_13 rfl rfl (fun M67 I68 q69 K70 R71 A72 V73 => ?_)
            have z74 := (V73 32 (by decide)).trans z17
            have K75 : ∀ i : Nat, i < 880 → 0 ≤ ra M67 o0 8 i := (by have e9 := ((sA_f A72 (by decide)) : sA [8] _ _ _) 8 rfl; rw [e9]; exact K18)
            clear z17
            refine mv_aload_n d_TrustDeskModel_counts_62 rfl rfl ?_
            refine mv_iload_n d_TrustDeskModel_counts_63 rfl rfl ?_
            refine tr_putR (k := 69) I68 R71 t16 rfl ⟨_, rfl⟩ (fun _ h => by cases h) rfl (fun lo hi h => by cases h) (Or.inl (by decide)) d_TrustDeskModel_counts_64 p_TrustDeskModel_571_13 rfl rfl (fun M76 I77 q78 K79 R80 A81 V82 => ?_)
            have z83 := (V82 32 (by decide)).trans z74
            have K84 : ∀ i : Nat, i < 880 → 0 ≤ ra M76 o0 8 i := (by have e9 := ((sA_f A81 (by decide)) : sA [8] _ _ _) 8 rfl; rw [e9]; exact K75)
            clear z74
            refine mv_iconst (v := 0) d_TrustDeskModel_counts_67 (by decide) ?_
            refine mv_istore (lv' := [(5, .int 0), (3, .long v14), (0, .ref o0), (1, .int x1), (2, .int x2)]) d_TrustDeskModel_counts_68 (by decide) rfl ?_
            have L70_85 : ∀ (k : Nat) (i5_85 : Int32) (T_85 : tm_H) (M_85 : mj_M) (n_85 : Nat), tm_I tm_FT (tm_in w_TrustDeskModel_counts_q0_x) x9 T0 M0 n0 T_85 M_85 n_85 → T_85 o0 = some (0, 13, 0) → 0 ≤ i5_85.toInt → (rI M_85 o0) → (∀ i : Nat, i < 880 → 0 ≤ ra M_85 o0 8 i) → 2147483647 - i5_85.toInt < (k : Int) → mj_V g l kY_TrustDeskModel_counts (d + 3) 70 [(5, .int i5_85), (3, .long v14), (0, .ref o0), (1, .int x1), (2, .int x2)] [] M_85 n_85 0 0 (tm_Q tm_FT (tm_in w_TrustDeskModel_counts_q0_x) x9 T0 M0 n0 (fun r _ M => r = none ∧ rI M o0)) := by
              intro k85
              induction k85 with
              | zero =>
                intro i5_85 T_85 M_85 n_85 I_85 h_q0_85 iv0_85 kKR_85 kK8_85 hk85
                have := mz_hi i5_85
                have := kKR_85.1 15 _ _ rfl
                have := kKR_85.1 16 _ _ rfl
                have := kKR_85.1 19 _ _ rfl
                omega
              | succ k85 ih85 =>
                intro i5_85 T_85 M_85 n_85 I_85 h_q0_85 iv0_85 kKR_85 kK8_85 hk85
                refine mv_iload d_TrustDeskModel_counts_70 rfl ?_
                refine mv_bipush (v := 12) d_TrustDeskModel_counts_72 (by decide) ?_
                have := mz_hi i5_85
                refine mv_icmp_geZ (tgt := 97) (a := i5_85.toInt) (b := 12) d_TrustDeskModel_counts_74 (by decide) rfl (by decide) (fun b86 => ?_) (fun b86 => ?_)
                · exact mv_vret d_TrustDeskModel_counts_97 rfl ⟨_, I_85, rfl, kKR_85⟩
                · refine mv_aload_n d_TrustDeskModel_counts_77 rfl rfl ?_
                  obtain ⟨a88, q87, t_a88⟩ := tm_atR I_85 h_q0_85 (k := 65) rfl
                  refine tr_getK q87 d_TrustDeskModel_counts_78 f_TrustDeskModel_155_13 ?_
                  refine mv_iload d_TrustDeskModel_counts_81 rfl ?_
                  refine mv_aload_n d_TrustDeskModel_counts_83 rfl rfl ?_
                  obtain ⟨a90, q89, t_a90⟩ := tm_atR I_85 h_q0_85 (k := 64) rfl
                  refine tr_getK q89 d_TrustDeskModel_counts_84 f_TrustDeskModel_152_13 ?_
                  refine mv_iload d_TrustDeskModel_counts_87 rfl ?_
                  refine tr_ialdR (o := o0) (k := 64) I_85 q89 t_a90 (by decide) d_TrustDeskModel_counts_89 (vp_in_iff.mpr (by have := kKR_85.1 32 _ _ rfl; omega)) (fun v91 e92 => ?_)
                  refine tr_iastR (k := 65) I_85 kKR_85 (I_85.up h_o0) q87 t_a88 (by decide) (by decide) (fun lo hi h => by cases h) (Or.inl (by decide)) d_TrustDeskModel_counts_90 (vp_in_iff.mpr (by have := kKR_85.1 32 _ _ rfl; omega)) (fun M93 I94 K95 R96 E97 A98 V99 => ?_)
                  have z100 := (V99 32)
                  have K101 : ∀ i : Nat, i < 880 → 0 ≤ ra M93 o0 8 i := (by have e9 := ((sA_a A98 (by decide +kernel)) : sA [8] _ _ _) 8 rfl; rw [e9]; exact kK8_85)
                  refine mv_iinc (v := (i5_85 + 1)) (lv' := [(5, .int (i5_85 + 1)), (3, .long v14), (0, .ref o0), (1, .int x1), (2, .int x2)]) d_TrustDeskModel_counts_91 rfl rfl (by decide) rfl ?_
                  refine mv_goto (tgt := 70) d_TrustDeskModel_counts_94 (by decide) ?_
                  have b102 : (i5_85 + 1 : Int32).toInt = (i5_85.toInt + 1) := mz_add2 rfl (by decide) (by have := R96.1 32 _ _ rfl; omega) (by have := R96.1 32 _ _ rfl; omega)
                  have b103 : (i5_85 + 1).toInt = i5_85.toInt + 1 := mz_addn 1 1 (by decide) (by have := mz_lo i5_85; omega) (by have := mz_hi i5_85; omega)
                  exact (ih85 (i5_85 + 1) T_85 M93 n_85 I94 h_q0_85 (by have := R96.1 32 _ _ rfl; first | omega | decide | exact fun h9 => absurd (by decide) h9) R96 K101 (by have := R96.1 32 _ _ rfl; omega))
            have : (0 : Int32).toInt = 0 := by decide
            exact mv_less (Nat.zero_le _) (Nat.zero_le _) (L70_85 4294967296 0 T10 M76 n9 I77 t16 (by have := R80.1 32 _ _ rfl; first | omega | decide | exact fun h9 => absurd (by decide) h9) R80 K84 (by show (2147483647 - (0 : Int) : Int) < _; decide))
          · refine mv_iload_n d_TrustDeskModel_counts_48 rfl rfl ?_
            refine mv_aload_n d_TrustDeskModel_counts_49 rfl rfl ?_
            refine tr_getK (k := 69) q23 d_TrustDeskModel_counts_50 f_TrustDeskModel_571_13 ?_
            have := mz_hi x2
            have := mz_hi v24
            refine mv_icmp_ltZ (tgt := 57) (a := x2.toInt) (b := v24.toInt) d_TrustDeskModel_counts_53 (by decide) rfl rfl (fun b104 => ?_) (fun b104 => ?_)
            · refine mv_aload_n d_TrustDeskModel_counts_57 rfl rfl ?_
              refine mv_lload_n d_TrustDeskModel_counts_58 rfl rfl ?_
              refine tr_putR (k := 68) I12 R15 t16 rfl ⟨_, rfl⟩ (fun _ h => by cases h) rfl (fun lo hi h => by cases h) (Or.inl (by decide)) d_TrustDeskModel_counts_59 p_TrustDeskModel_574_13 rfl rfl (fun M105 I106 q107 K108 R109 A110 V111 => ?_)
              have z112 := (V111 32 (by decide)).trans z17
              have K113 : ∀ i : Nat, i < 880 → 0 ≤ ra M105 o0 8 i := (by have e9 := ((sA_f A110 (by decide)) : sA [8] _ _ _) 8 rfl; rw [e9]; exact K18)
              clear z17
              refine mv_aload_n d_TrustDeskModel_counts_62 rfl rfl ?_
              refine mv_iload_n d_TrustDeskModel_counts_63 rfl rfl ?_
              refine tr_putR (k := 69) I106 R109 t16 rfl ⟨_, rfl⟩ (fun _ h => by cases h) rfl (fun lo hi h => by cases h) (Or.inl (by decide)) d_TrustDeskModel_counts_64 p_TrustDeskModel_571_13 rfl rfl (fun M114 I115 q116 K117 R118 A119 V120 => ?_)
              have z121 := (V120 32 (by decide)).trans z112
              have K122 : ∀ i : Nat, i < 880 → 0 ≤ ra M114 o0 8 i := (by have e9 := ((sA_f A119 (by decide)) : sA [8] _ _ _) 8 rfl; rw [e9]; exact K113)
              clear z112
              refine mv_iconst (v := 0) d_TrustDeskModel_counts_67 (by decide) ?_
              refine mv_istore (lv' := [(5, .int 0), (3, .long v14), (0, .ref o0), (1, .int x1), (2, .int x2)]) d_TrustDeskModel_counts_68 (by decide) rfl ?_
              have L70_123 : ∀ (k : Nat) (i5_123 : Int32) (T_123 : tm_H) (M_123 : mj_M) (n_123 : Nat), tm_I tm_FT (tm_in w_TrustDeskModel_counts_q0_x) x9 T0 M0 n0 T_123 M_123 n_123 → T_123 o0 = some (0, 13, 0) → 0 ≤ i5_123.toInt → (rI M_123 o0) → (∀ i : Nat, i < 880 → 0 ≤ ra M_123 o0 8 i) → 2147483647 - i5_123.toInt < (k : Int) → mj_V g l kY_TrustDeskModel_counts (d + 3) 70 [(5, .int i5_123), (3, .long v14), (0, .ref o0), (1, .int x1), (2, .int x2)] [] M_123 n_123 0 0 (tm_Q tm_FT (tm_in w_TrustDeskModel_counts_q0_x) x9 T0 M0 n0 (fun r _ M => r = none ∧ rI M o0)) := by
                intro k123
                induction k123 with
                | zero =>
                  intro i5_123 T_123 M_123 n_123 I_123 h_q0_123 iv0_123 kKR_123 kK8_123 hk123
                  have := mz_hi i5_123
                  have := kKR_123.1 15 _ _ rfl
                  have := kKR_123.1 16 _ _ rfl
                  have := kKR_123.1 19 _ _ rfl
                  omega
                | succ k123 ih123 =>
                  intro i5_123 T_123 M_123 n_123 I_123 h_q0_123 iv0_123 kKR_123 kK8_123 hk123
                  refine mv_iload d_TrustDeskModel_counts_70 rfl ?_
                  refine mv_bipush (v := 12) d_TrustDeskModel_counts_72 (by decide) ?_
                  have := mz_hi i5_123
                  refine mv_icmp_geZ (tgt := 97) (a := i5_123.toInt) (b := 12) d_TrustDeskModel_counts_74 (by decide) rfl (by decide) (fun b124 => ?_) (fun b124 => ?_)
                  · exact mv_vret d_TrustDeskModel_counts_97 rfl ⟨_, I_123, rfl, kKR_123⟩
                  · refine mv_aload_n d_TrustDeskModel_counts_77 rfl rfl ?_
                    obtain ⟨a126, q125, t_a126⟩ := tm_atR I_123 h_q0_123 (k := 65) rfl
                    refine tr_getK q125 d_TrustDeskModel_counts_78 f_TrustDeskModel_155_13 ?_
                    refine mv_iload d_TrustDeskModel_counts_81 rfl ?_
                    refine mv_aload_n d_TrustDeskModel_counts_83 rfl rfl ?_
                    obtain ⟨a128, q127, t_a128⟩ := tm_atR I_123 h_q0_123 (k := 64) rfl
                    refine tr_getK q127 d_TrustDeskModel_counts_84 f_TrustDeskModel_152_13 ?_
                    refine mv_iload d_TrustDeskModel_counts_87 rfl ?_
                    refine tr_ialdR (o := o0) (k := 64) I_123 q127 t_a128 (by decide) d_TrustDeskModel_counts_89 (vp_in_iff.mpr (by have := kKR_123.1 32 _ _ rfl; omega)) (fun v129 e130 => ?_)
                    refine tr_iastR (k := 65) I_123 kKR_123 (I_123.up h_o0) q125 t_a126 (by decide) (by decide) (fun lo hi h => by cases h) (Or.inl (by decide)) d_TrustDeskModel_counts_90 (vp_in_iff.mpr (by have := kKR_123.1 32 _ _ rfl; omega)) (fun M131 I132 K133 R134 E135 A136 V137 => ?_)
                    have z138 := (V137 32)
                    have K139 : ∀ i : Nat, i < 880 → 0 ≤ ra M131 o0 8 i := (by have e9 := ((sA_a A136 (by decide +kernel)) : sA [8] _ _ _) 8 rfl; rw [e9]; exact kK8_123)
                    refine mv_iinc (v := (i5_123 + 1)) (lv' := [(5, .int (i5_123 + 1)), (3, .long v14), (0, .ref o0), (1, .int x1), (2, .int x2)]) d_TrustDeskModel_counts_91 rfl rfl (by decide) rfl ?_
                    refine mv_goto (tgt := 70) d_TrustDeskModel_counts_94 (by decide) ?_
                    have b140 : (i5_123 + 1 : Int32).toInt = (i5_123.toInt + 1) := mz_add2 rfl (by decide) (by have := R134.1 32 _ _ rfl; omega) (by have := R134.1 32 _ _ rfl; omega)
                    have b141 : (i5_123 + 1).toInt = i5_123.toInt + 1 := mz_addn 1 1 (by decide) (by have := mz_lo i5_123; omega) (by have := mz_hi i5_123; omega)
                    exact (ih123 (i5_123 + 1) T_123 M131 n_123 I132 h_q0_123 (by have := R134.1 32 _ _ rfl; first | omega | decide | exact fun h9 => absurd (by decide) h9) R134 K139 (by have := R134.1 32 _ _ rfl; omega))
              have : (0 : Int32).toInt = 0 := by decide
              exact mv_less (Nat.zero_le _) (Nat.zero_le _) (L70_123 4294967296 0 T10 M114 n9 I115 t16 (by have := R118.1 32 _ _ rfl; first | omega | decide | exact fun h9 => absurd (by decide) h9) R118 K122 (by show (2147483647 - (0 : Int) : Int) < _; decide))
            · exact mv_vret d_TrustDeskModel_counts_56 rfl ⟨_, I12, rfl, R15⟩
theorem lV_TrustDeskModel_578 : mj_lV "TrustDeskModel" 578 kY_TrustDeskModel_counts 2 := ⟨⟨(mj_in1 (List.mem_of_getElem? (i := 2026) (by decide +kernel)) rfl), (mj_in1 (List.mem_of_getElem? (i := 10) (by decide +kernel)) rfl), (mj_in1 (List.mem_of_getElem? (i := 2029) (by decide +kernel)) rfl), by decide, rfl, by decide⟩, (mj_in1 (List.mem_of_getElem? (i := 2028) (by decide +kernel)) rfl), (mj_in (List.mem_append_left _ (List.mem_of_getElem? (i := 141) (by decide +kernel))) rfl)⟩
theorem d_TrustDeskModel_counts_157 : decode kY_TrustDeskModel_counts.2.1 157 = .ok (.iinc 3 1, 3) := by decide +kernel
theorem d_TrustDeskModel_counts_160 : decode kY_TrustDeskModel_counts.2.1 160 = .ok (.goto (-40), 3) := by decide +kernel
theorem d_TrustDeskModel_counts_147 : decode kY_TrustDeskModel_counts.2.1 147 = .ok (.iload_n 2, 1) := by decide +kernel
theorem d_TrustDeskModel_counts_148 : decode kY_TrustDeskModel_counts.2.1 148 = .ok (.iconst 1, 1) := by decide +kernel
theorem d_TrustDeskModel_counts_149 : decode kY_TrustDeskModel_counts.2.1 149 = .ok (.iadd, 1) := by decide +kernel
theorem d_TrustDeskModel_counts_150 : decode kY_TrustDeskModel_counts.2.1 150 = .ok (.goto 4, 3) := by decide +kernel
theorem d_TrustDeskModel_counts_109 : decode kY_TrustDeskModel_counts.2.1 109 = .ok (.aload_n 0, 1) := by decide +kernel
theorem d_TrustDeskModel_counts_110 : decode kY_TrustDeskModel_counts.2.1 110 = .ok (.iload_n 1, 1) := by decide +kernel
theorem d_TrustDeskModel_counts_111 : decode kY_TrustDeskModel_counts.2.1 111 = .ok (.iconst 1, 1) := by decide +kernel
theorem d_TrustDeskModel_counts_112 : decode kY_TrustDeskModel_counts.2.1 112 = .ok (.iadd, 1) := by decide +kernel
theorem d_TrustDeskModel_counts_113 : decode kY_TrustDeskModel_counts.2.1 113 = .ok (.iload_n 2, 1) := by decide +kernel
theorem d_TrustDeskModel_counts_114 : decode kY_TrustDeskModel_counts.2.1 114 = .ok (.invokevirtual 578, 3) := by decide +kernel
theorem d_TrustDeskModel_counts_117 : decode kY_TrustDeskModel_counts.2.1 117 = .ok (.return_, 1) := by decide +kernel
def w_TrustDeskModel_counts_q1_x : List Nat := [1368, 1369, 20064, 20065]
set_option maxHeartbeats 100000000 in theorem tc_TrustDeskModel_counts_q1_x {g : mj_G} {l : Launch} {d : Nat} {T0 : tm_H} {M0 : mj_M} {n0 x9 : Nat} {o0 : Nat} {x1 : Int32} {x2 : Int32} (h_o0 : T0 o0 = some (0, 13, 0)) (yR : rI M0 o0) (y8 : ∀ i : Nat, i < 880 → 0 ≤ ra M0 o0 8 i) (yl : 11 ≤ x1.toInt ∧ x1.toInt ≤ rv M0 o0 32 ∧ 0 ≤ x2.toInt ∧ x2.toInt ≤ x1.toInt) (I0 : tm_I tm_FT (tm_in w_TrustDeskModel_counts_q1_x) x9 T0 M0 n0 T0 M0 n0) : mj_Met g l kY_TrustDeskModel_counts (d + 4) [.ref o0, .int x1, .int x2] M0 n0 0 0 (tm_Q tm_FT (tm_in w_TrustDeskModel_counts_q1_x) x9 T0 M0 n0 (fun r _ M => r = none ∧ rI M o0)) := by
  refine mj_enter (by decide) (Nat.le_of_ble_eq_true rfl) ?_
  have K1 : ∀ i : Nat, i < 880 → 0 ≤ ra M0 o0 8 i := y8
  refine mv_iload_n d_TrustDeskModel_counts_0 rfl rfl ?_
  refine mv_aload_n d_TrustDeskModel_counts_1 rfl rfl ?_
  obtain ⟨v3, q2⟩ := tm_atI I0 h_o0 (k := 32) rfl
  refine tr_getK q2 d_TrustDeskModel_counts_2 f_TrustDeskModel_415_13 ?_
  have := yR.f (k := 32) q2 rfl
  have := tm_rv q2
  have := mz_hi x1
  have := mz_hi v3
  refine mv_icmp_neZ (tgt := 98) (a := x1.toInt) (b := v3.toInt) d_TrustDeskModel_counts_5 (by decide) rfl rfl (fun b4 => ?_) (fun b4 => ?_)
  · refine mv_aload_n d_TrustDeskModel_counts_98 rfl rfl ?_
    obtain ⟨v6, q5⟩ := tm_atI I0 h_o0 (k := 67) rfl
    refine tr_getK q5 d_TrustDeskModel_counts_99 f_TrustDeskModel_560_13 ?_
    refine mv_iload_n d_TrustDeskModel_counts_102 rfl rfl ?_
    refine mv_ishr d_TrustDeskModel_counts_103 ?_
    refine mv_iconst (v := 1) d_TrustDeskModel_counts_104 (by decide) ?_
    refine mv_iand d_TrustDeskModel_counts_105 ?_
    have := mz_hi ((v6 >>> (x1 &&& 31)) &&& 1)
    refine mv_if_neZ (tgt := 118) (a := ((v6 >>> (x1 &&& 31)) &&& 1).toInt) d_TrustDeskModel_counts_106 (by decide) rfl (fun b7 => ?_) (fun b7 => ?_)
    · refine mv_iconst (v := 0) d_TrustDeskModel_counts_118 (by decide) ?_
      refine mv_istore_n (lv' := [(3, .int 0), (0, .ref o0), (1, .int x1), (2, .int x2)]) d_TrustDeskModel_counts_119 rfl (by decide) rfl ?_
      have L120_8 : ∀ (k : Nat) (i3_8 : Int32) (T_8 : tm_H) (M_8 : mj_M) (n_8 : Nat), tm_I tm_FT (tm_in w_TrustDeskModel_counts_q1_x) x9 T0 M0 n0 T_8 M_8 n_8 → T_8 o0 = some (0, 13, 0) → 0 ≤ i3_8.toInt → rv M_8 o0 32 = rv M0 o0 32 → (rI M_8 o0) → (∀ i : Nat, i < 880 → 0 ≤ ra M_8 o0 8 i) → 2147483647 - i3_8.toInt < (k : Int) → mj_V g l kY_TrustDeskModel_counts (d + 4) 120 [(3, .int i3_8), (0, .ref o0), (1, .int x1), (2, .int x2)] [] M_8 n_8 0 0 (tm_Q tm_FT (tm_in w_TrustDeskModel_counts_q1_x) x9 T0 M0 n0 (fun r _ M => r = none ∧ rI M o0)) := by
        intro k8
        induction k8 with
        | zero =>
          intro i3_8 T_8 M_8 n_8 I_8 h_q0_8 iv0_8 iv1_8 kKR_8 kK8_8 hk8
          have := mz_hi i3_8
          have := kKR_8.1 15 _ _ rfl
          have := kKR_8.1 16 _ _ rfl
          have := kKR_8.1 19 _ _ rfl
          omega
        | succ k8 ih8 =>
          intro i3_8 T_8 M_8 n_8 I_8 h_q0_8 iv0_8 iv1_8 kKR_8 kK8_8 hk8
          refine mv_iload_n d_TrustDeskModel_counts_120 rfl rfl ?_
          refine mv_iload_n d_TrustDeskModel_counts_121 rfl rfl ?_
          have := mz_hi i3_8
          have := mz_hi x2
          refine mv_icmp_gtZ (tgt := 163) (a := i3_8.toInt) (b := x2.toInt) d_TrustDeskModel_counts_122 (by decide) rfl rfl (fun b9 => ?_) (fun b9 => ?_)
          · exact mv_vret d_TrustDeskModel_counts_163 rfl ⟨_, I_8, rfl, kKR_8⟩
          · refine mv_iload_n d_TrustDeskModel_counts_125 rfl rfl ?_
            refine mv_bipush (v := 8) d_TrustDeskModel_counts_126 (by decide) ?_
            have := mz_hi i3_8
            refine mv_icmp_geZ (tgt := 163) (a := i3_8.toInt) (b := 8) d_TrustDeskModel_counts_128 (by decide) rfl (by decide) (fun b10 => ?_) (fun b10 => ?_)
            · exact mv_vret d_TrustDeskModel_counts_163 rfl ⟨_, I_8, rfl, kKR_8⟩
            · refine mv_aload_n d_TrustDeskModel_counts_131 rfl rfl ?_
              obtain ⟨a12, q11, t_a12⟩ := tm_atR I_8 h_q0_8 (k := 64) rfl
              refine tr_getK q11 d_TrustDeskModel_counts_132 f_TrustDeskModel_152_13 ?_
              refine mv_iload_n d_TrustDeskModel_counts_135 rfl rfl ?_
              refine mv_iload_n d_TrustDeskModel_counts_136 rfl rfl ?_
              refine tr_iastR (k := 64) I_8 kKR_8 (I_8.up h_o0) q11 t_a12 (by decide) (by decide) (fun lo hi h => by cases h) (Or.inl (by decide)) d_TrustDeskModel_counts_137 (vp_in_iff.mpr (by have := kKR_8.1 32 _ _ rfl; omega)) (fun M13 I14 K15 R16 E17 A18 V19 => ?_)
              have z20 := (V19 32)
              have K21 : ∀ i : Nat, i < 880 → 0 ≤ ra M13 o0 8 i := (by have e9 := ((sA_a A18 (by decide +kernel)) : sA [8] _ _ _) 8 rfl; rw [e9]; exact kK8_8)
              refine mv_aload_n d_TrustDeskModel_counts_138 rfl rfl ?_
              refine mv_iload_n d_TrustDeskModel_counts_139 rfl rfl ?_
              refine mv_iconst (v := 1) d_TrustDeskModel_counts_140 (by decide) ?_
              refine mv_iadd d_TrustDeskModel_counts_141 ?_
              refine mv_iload_n d_TrustDeskModel_counts_142 rfl rfl ?_
              refine mv_iload_n d_TrustDeskModel_counts_143 rfl rfl ?_
              have := mz_hi i3_8
              have := mz_hi x2
              refine mv_icmp_neZ (tgt := 153) (a := i3_8.toInt) (b := x2.toInt) d_TrustDeskModel_counts_144 (by decide) rfl rfl (fun b22 => ?_) (fun b22 => ?_)
              · refine mv_iload_n d_TrustDeskModel_counts_153 rfl rfl ?_
                obtain ⟨_, b29, -⟩ := I14.1 _ _ h_q0_8
                have b30 : (x1 + 1 : Int32).toInt = (x1.toInt + 1) := mz_add2 rfl (by decide) (by have := R16.1 32 _ _ rfl; omega) (by have := R16.1 32 _ _ rfl; omega)
                refine mv_callV (kc' := 0) (ks' := 0) (As := [.int (x1 + 1), .int x2]) (st9 := [.int x2, .int (x1 + 1), .ref o0]) d_TrustDeskModel_counts_154 lV_TrustDeskModel_578 b29 rfl (tc_TrustDeskModel_counts_q0_x (d := d) (x9 := x9) (o0 := o0) (x1 := (x1 + 1)) (x2 := x2) h_q0_8 R16 K21 (by have := R16.1 32 _ _ rfl; omega) I14.start) rfl (Nat.le_of_ble_eq_true rfl) (Nat.le_of_ble_eq_true rfl) (Nat.le_of_ble_eq_true rfl) (hst := rfl) (fun b23r M24 n25 b23 => ?_)
                obtain ⟨T26, J27, rfl, R31⟩ := b23
                have I28 := I14.call J27 (tm_sub (by decide)) (Or.inl rfl)
                have t32 := J27.up h_q0_8
                have z33 := (rv_c I14 J27 (I14.up h_o0) (k := 32) rfl).trans z20
                have K34 : ∀ i : Nat, i < 880 → 0 ≤ ra M24 o0 8 i := (by have e9 := ((sA_c I14 J27 (I14.up h_o0) (by decide +kernel)) : sA [8] _ _ _) 8 rfl; rw [e9]; exact K21)
                clear z20
                have q35 := J27.keep h_q0_8 (by decide) (K15 _ 13 64 _ q11)
                have t36 := J27.up t_a12
                refine mv_iinc (v := (i3_8 + 1)) (lv' := [(3, .int (i3_8 + 1)), (0, .ref o0), (1, .int x1), (2, .int x2)]) d_TrustDeskModel_counts_157 rfl rfl (by decide) rfl ?_
                refine mv_goto (tgt := 120) d_TrustDeskModel_counts_160 (by decide) ?_
                have b37 : (i3_8 + 1 : Int32).toInt = (i3_8.toInt + 1) := mz_add2 rfl (by decide) (by have := R31.1 32 _ _ rfl; omega) (by have := R31.1 32 _ _ rfl; omega)
                have b38 : (i3_8 + 1).toInt = i3_8.toInt + 1 := mz_addn 1 1 (by decide) (by have := mz_lo i3_8; omega) (by have := mz_hi i3_8; omega)
                exact (ih8 (i3_8 + 1) T26 M24 n25 I28 t32 (by have := R31.1 32 _ _ rfl; first | omega | decide | exact fun h9 => absurd (by decide) h9) (by have := R31.1 32 _ _ rfl; first | omega | decide | exact fun h9 => absurd (by decide) h9) R31 K34 (by have := R31.1 32 _ _ rfl; omega))
              · refine mv_iload_n d_TrustDeskModel_counts_147 rfl rfl ?_
                refine mv_iconst (v := 1) d_TrustDeskModel_counts_148 (by decide) ?_
                refine mv_iadd d_TrustDeskModel_counts_149 ?_
                refine mv_goto (tgt := 154) d_TrustDeskModel_counts_150 (by decide) ?_
                obtain ⟨_, b45, -⟩ := I14.1 _ _ h_q0_8
                have b46 : (x1 + 1 : Int32).toInt = (x1.toInt + 1) := mz_add2 rfl (by decide) (by have := R16.1 32 _ _ rfl; omega) (by have := R16.1 32 _ _ rfl; omega)
                have b47 : (x2 + 1 : Int32).toInt = (x2.toInt + 1) := mz_add2 rfl (by decide) (by have := R16.1 32 _ _ rfl; omega) (by have := R16.1 32 _ _ rfl; omega)
                refine mv_callV (kc' := 0) (ks' := 0) (As := [.int (x1 + 1), .int (x2 + 1)]) (st9 := [.int (x2 + 1), .int (x1 + 1), .ref o0]) d_TrustDeskModel_counts_154 lV_TrustDeskModel_578 b45 rfl (tc_TrustDeskModel_counts_q0_x (d := d) (x9 := x9) (o0 := o0) (x1 := (x1 + 1)) (x2 := (x2 + 1)) h_q0_8 R16 K21 (by have := R16.1 32 _ _ rfl; omega) I14.start) rfl (Nat.le_of_ble_eq_true rfl) (Nat.le_of_ble_eq_true rfl) (Nat.le_of_ble_eq_true rfl) (hst := rfl) (fun b39r M40 n41 b39 => ?_)
                obtain ⟨T42, J43, rfl, R48⟩ := b39
                have I44 := I14.call J43 (tm_sub (by decide)) (Or.inl rfl)
                have t49 := J43.up h_q0_8
                have z50 := (rv_c I14 J43 (I14.up h_o0) (k := 32) rfl).trans z20
                have K51 : ∀ i : Nat, i < 880 → 0 ≤ ra M40 o0 8 i := (by have e9 := ((sA_c I14 J43 (I14.up h_o0) (by decide +kernel)) : sA [8] _ _ _) 8 rfl; rw [e9]; exact K21)
                clear z20
                have q52 := J43.keep h_q0_8 (by decide) (K15 _ 13 64 _ q11)
                have t53 := J43.up t_a12
                refine mv_iinc (v := (i3_8 + 1)) (lv' := [(3, .int (i3_8 + 1)), (0, .ref o0), (1, .int x1), (2, .int x2)]) d_TrustDeskModel_counts_157 rfl rfl (by decide) rfl ?_
                refine mv_goto (tgt := 120) d_TrustDeskModel_counts_160 (by decide) ?_
                have b54 : (i3_8 + 1 : Int32).toInt = (i3_8.toInt + 1) := mz_add2 rfl (by decide) (by have := R48.1 32 _ _ rfl; omega) (by have := R48.1 32 _ _ rfl; omega)
                have b55 : (i3_8 + 1).toInt = i3_8.toInt + 1 := mz_addn 1 1 (by decide) (by have := mz_lo i3_8; omega) (by have := mz_hi i3_8; omega)
                exact (ih8 (i3_8 + 1) T42 M40 n41 I44 t49 (by have := R48.1 32 _ _ rfl; first | omega | decide | exact fun h9 => absurd (by decide) h9) (by have := R48.1 32 _ _ rfl; first | omega | decide | exact fun h9 => absurd (by decide) h9) R48 K51 (by have := R48.1 32 _ _ rfl; omega))
      have : (0 : Int32).toInt = 0 := by decide
      exact mv_less (Nat.zero_le _) (Nat.zero_le _) (L120_8 4294967296 0 T0 M0 n0 I0 h_o0 (by have := yR.1 32 _ _ rfl; first | omega | decide | exact fun h9 => absurd (by decide) h9) (by have := yR.1 32 _ _ rfl; first | omega | decide | exact fun h9 => absurd (by decide) h9) yR K1 (by show (2147483647 - (0 : Int) : Int) < _; decide))
    · refine mv_aload_n d_TrustDeskModel_counts_109 rfl rfl ?_
      refine mv_iload_n d_TrustDeskModel_counts_110 rfl rfl ?_
      refine mv_iconst (v := 1) d_TrustDeskModel_counts_111 (by decide) ?_
      refine mv_iadd d_TrustDeskModel_counts_112 ?_
      refine mv_iload_n d_TrustDeskModel_counts_113 rfl rfl ?_
      obtain ⟨_, b62, -⟩ := I0.1 _ _ h_o0
      have b63 : (x1 + 1 : Int32).toInt = (x1.toInt + 1) := mz_add2 rfl (by decide) (by have := yR.1 32 _ _ rfl; omega) (by have := yR.1 32 _ _ rfl; omega)
      refine mv_callV (kc' := 0) (ks' := 0) (As := [.int (x1 + 1), .int x2]) (st9 := [.int x2, .int (x1 + 1), .ref o0]) d_TrustDeskModel_counts_114 lV_TrustDeskModel_578 b62 rfl (tc_TrustDeskModel_counts_q0_x (d := d) (x9 := x9) (o0 := o0) (x1 := (x1 + 1)) (x2 := x2) h_o0 yR K1 (by have := yR.1 32 _ _ rfl; omega) I0.start) rfl (Nat.le_of_ble_eq_true rfl) (Nat.le_of_ble_eq_true rfl) (Nat.le_of_ble_eq_true rfl) (hst := rfl) (fun b56r M57 n58 b56 => ?_)
      obtain ⟨T59, J60, rfl, R64⟩ := b56
      have I61 := I0.call J60 (tm_sub (by decide)) (Or.inl rfl)
      have t65 := J60.up h_o0
      have z66 := (rv_c I0 J60 (I0.up h_o0) (k := 32) rfl)
      have K67 : ∀ i : Nat, i < 880 → 0 ≤ ra M57 o0 8 i := (by have e9 := ((sA_c I0 J60 (I0.up h_o0) (by decide +kernel)) : sA [8] _ _ _) 8 rfl; rw [e9]; exact K1)
      have q68 := J60.keep h_o0 (by decide) q2
      have q69 := J60.keep h_o0 (by decide) q5
      exact mv_vret d_TrustDeskModel_counts_117 rfl ⟨_, I61, rfl, R64⟩
  · refine mv_aload_n d_TrustDeskModel_counts_8 rfl rfl ?_
    refine mv_aload_n d_TrustDeskModel_counts_9 rfl rfl ?_
    obtain ⟨a71, q70, t_a71⟩ := tm_atR I0 h_o0 (k := 64) rfl
    refine tr_getK q70 d_TrustDeskModel_counts_10 f_TrustDeskModel_152_13 ?_
    obtain ⟨_, b78, -⟩ := I0.1 _ _ h_o0
    refine mv_callV (kc' := 0) (ks' := 0) (As := [.ref a71]) (st9 := [.ref a71, .ref o0]) d_TrustDeskModel_counts_13 lV_TrustDeskModel_567 b78 rfl (tc_TrustDeskModel_idle_q64_x (d := (d + 1)) (x9 := x9) (o0 := o0) (o1 := a71) h_o0 t_a71 yR K1 I0.start) rfl (Nat.le_of_ble_eq_true rfl) (Nat.le_of_ble_eq_true rfl) (Nat.le_of_ble_eq_true rfl) (hst := rfl) (fun b72r M73 n74 b72 => ?_)
    obtain ⟨T75, J76, v79, rfl, R80⟩ := b72
    have I77 := I0.call J76 (tm_sub (by decide)) (Or.inl rfl)
    have t81 := J76.up h_o0
    have z82 := (rv_c I0 J76 (I0.up h_o0) (k := 32) rfl)
    have K83 : ∀ i : Nat, i < 880 → 0 ≤ ra M73 o0 8 i := (by have e9 := ((sA_c I0 J76 (I0.up h_o0) (by decide +kernel)) : sA [8] _ _ _) 8 rfl; rw [e9]; exact K1)
    have q84 := J76.keep h_o0 (by decide) q2
    have q85 := J76.keep h_o0 (by decide) q70
    have t86 := J76.up t_a71
    refine mv_lstore_n (lv' := [(3, .long v79), (0, .ref o0), (1, .int x1), (2, .int x2)]) d_TrustDeskModel_counts_16 rfl (by decide) rfl ?_
    refine mv_lload_n d_TrustDeskModel_counts_17 rfl rfl ?_
    refine mv_lconst (v := 0) d_TrustDeskModel_counts_18 (by decide) ?_
    refine mv_lltZ (tgt := 56) (a := v79.toInt) (b := 0) d_TrustDeskModel_counts_19 d_TrustDeskModel_counts_20 (by decide) rfl (by decide) (fun b87 => ?_) (fun b87 => ?_)
    · exact mv_vret d_TrustDeskModel_counts_56 rfl ⟨_, I77, rfl, R80⟩
    · refine mv_aload_n d_TrustDeskModel_counts_23 rfl rfl ?_
      obtain ⟨v89, q88⟩ := tm_atI I77 t81 (k := 69) rfl
      refine tr_getK q88 d_TrustDeskModel_counts_24 f_TrustDeskModel_571_13 ?_
      have := mz_hi v89
      refine mv_if_eqZ (tgt := 57) (a := v89.toInt) d_TrustDeskModel_counts_27 (by decide) rfl (fun b90 => ?_) (fun b90 => ?_)
      · refine mv_aload_n d_TrustDeskModel_counts_57 rfl rfl ?_
        refine mv_lload_n d_TrustDeskModel_counts_58 rfl rfl ?_
        refine tr_putR (k := 68) I77 R80 t81 rfl ⟨_, rfl⟩ (fun _ h => by cases h) rfl (fun lo hi h => by cases h) (Or.inl (by decide)) d_TrustDeskModel_counts_59 p_TrustDeskModel_574_13 rfl rfl (fun M91 I92 q93 K94 R95 A96 V97 => ?_)
        have z98 := (V97 32 (by decide)).trans z82
        have K99 : ∀ i : Nat, i < 880 → 0 ≤ ra M91 o0 8 i := (by have e9 := ((sA_f A96 (by decide)) : sA [8] _ _ _) 8 rfl; rw [e9]; exact K83)
        clear z82
        refine mv_aload_n d_TrustDeskModel_counts_62 rfl rfl ?_
        refine mv_iload_n d_TrustDeskModel_counts_63 rfl rfl ?_
        refine tr_putR (k := 69) I92 R95 t81 rfl ⟨_, rfl⟩ (fun _ h => by cases h) rfl (fun lo hi h => by cases h) (Or.inl (by decide)) d_TrustDeskModel_counts_64 p_TrustDeskModel_571_13 rfl rfl (fun M100 I101 q102 K103 R104 A105 V106 => ?_)
        have z107 := (V106 32 (by decide)).trans z98
        have K108 : ∀ i : Nat, i < 880 → 0 ≤ ra M100 o0 8 i := (by have e9 := ((sA_f A105 (by decide)) : sA [8] _ _ _) 8 rfl; rw [e9]; exact K99)
        clear z98
        refine mv_iconst (v := 0) d_TrustDeskModel_counts_67 (by decide) ?_
        refine mv_istore (lv' := [(5, .int 0), (3, .long v79), (0, .ref o0), (1, .int x1), (2, .int x2)]) d_TrustDeskModel_counts_68 (by decide) rfl ?_
        have L70_109 : ∀ (k : Nat) (i5_109 : Int32) (T_109 : tm_H) (M_109 : mj_M) (n_109 : Nat), tm_I tm_FT (tm_in w_TrustDeskModel_counts_q1_x) x9 T0 M0 n0 T_109 M_109 n_109 → T_109 o0 = some (0, 13, 0) → 0 ≤ i5_109.toInt → (rI M_109 o0) → (∀ i : Nat, i < 880 → 0 ≤ ra M_109 o0 8 i) → 2147483647 - i5_109.toInt < (k : Int) → mj_V g l kY_TrustDeskModel_counts (d + 4) 70 [(5, .int i5_109), (3, .long v79), (0, .ref o0), (1, .int x1), (2, .int x2)] [] M_109 n_109 0 0 (tm_Q tm_FT (tm_in w_TrustDeskModel_counts_q1_x) x9 T0 M0 n0 (fun r _ M => r = none ∧ rI M o0)) := by
          intro k109
          induction k109 with
          | zero =>
            intro i5_109 T_109 M_109 n_109 I_109 h_q0_109 iv0_109 kKR_109 kK8_109 hk109
            have := mz_hi i5_109
            have := kKR_109.1 15 _ _ rfl
            have := kKR_109.1 16 _ _ rfl
            have := kKR_109.1 19 _ _ rfl
            omega
          | succ k109 ih109 =>
            intro i5_109 T_109 M_109 n_109 I_109 h_q0_109 iv0_109 kKR_109 kK8_109 hk109
            refine mv_iload d_TrustDeskModel_counts_70 rfl ?_
            refine mv_bipush (v := 12) d_TrustDeskModel_counts_72 (by decide) ?_
            have := mz_hi i5_109
            refine mv_icmp_geZ (tgt := 97) (a := i5_109.toInt) (b := 12) d_TrustDeskModel_counts_74 (by decide) rfl (by decide) (fun b110 => ?_) (fun b110 => ?_)
            · exact mv_vret d_TrustDeskModel_counts_97 rfl ⟨_, I_109, rfl, kKR_109⟩
            · refine mv_aload_n d_TrustDeskModel_counts_77 rfl rfl ?_
              obtain ⟨a112, q111, t_a112⟩ := tm_atR I_109 h_q0_109 (k := 65) rfl
              refine tr_getK q111 d_TrustDeskModel_counts_78 f_TrustDeskModel_155_13 ?_
              refine mv_iload d_TrustDeskModel_counts_81 rfl ?_
              refine mv_aload_n d_TrustDeskModel_counts_83 rfl rfl ?_
              obtain ⟨a114, q113, t_a114⟩ := tm_atR I_109 h_q0_109 (k := 64) rfl
              refine tr_getK q113 d_TrustDeskModel_counts_84 f_TrustDeskModel_152_13 ?_
              refine mv_iload d_TrustDeskModel_counts_87 rfl ?_
              refine tr_ialdR (o := o0) (k := 64) I_109 q113 t_a114 (by decide) d_TrustDeskModel_counts_89 (vp_in_iff.mpr (by have := kKR_109.1 32 _ _ rfl; omega)) (fun v115 e116 => ?_)
              refine tr_iastR (k := 65) I_109 kKR_109 (I_109.up h_o0) q111 t_a112 (by decide) (by decide) (fun lo hi h => by cases h) (Or.inl (by decide)) d_TrustDeskModel_counts_90 (vp_in_iff.mpr (by have := kKR_109.1 32 _ _ rfl; omega)) (fun M117 I118 K119 R120 E121 A122 V123 => ?_)
              have z124 := (V123 32)
              have K125 : ∀ i : Nat, i < 880 → 0 ≤ ra M117 o0 8 i := (by have e9 := ((sA_a A122 (by decide +kernel)) : sA [8] _ _ _) 8 rfl; rw [e9]; exact kK8_109)
              refine mv_iinc (v := (i5_109 + 1)) (lv' := [(5, .int (i5_109 + 1)), (3, .long v79), (0, .ref o0), (1, .int x1), (2, .int x2)]) d_TrustDeskModel_counts_91 rfl rfl (by decide) rfl ?_
              refine mv_goto (tgt := 70) d_TrustDeskModel_counts_94 (by decide) ?_
              have b126 : (i5_109 + 1 : Int32).toInt = (i5_109.toInt + 1) := mz_add2 rfl (by decide) (by have := R120.1 32 _ _ rfl; omega) (by have := R120.1 32 _ _ rfl; omega)
              have b127 : (i5_109 + 1).toInt = i5_109.toInt + 1 := mz_addn 1 1 (by decide) (by have := mz_lo i5_109; omega) (by have := mz_hi i5_109; omega)
              exact (ih109 (i5_109 + 1) T_109 M117 n_109 I118 h_q0_109 (by have := R120.1 32 _ _ rfl; first | omega | decide | exact fun h9 => absurd (by decide) h9) R120 K125 (by have := R120.1 32 _ _ rfl; omega))
        have : (0 : Int32).toInt = 0 := by decide
        exact mv_less (Nat.zero_le _) (Nat.zero_le _) (L70_109 4294967296 0 T75 M100 n74 I101 t81 (by have := R104.1 32 _ _ rfl; first | omega | decide | exact fun h9 => absurd (by decide) h9) R104 K108 (by show (2147483647 - (0 : Int) : Int) < _; decide))
      · refine mv_lload_n d_TrustDeskModel_counts_30 rfl rfl ?_
        refine mv_aload_n d_TrustDeskModel_counts_31 rfl rfl ?_
        obtain ⟨v129, q128⟩ := tm_atL I77 t81 (k := 68) rfl
        refine tr_getK q128 d_TrustDeskModel_counts_32 f_TrustDeskModel_574_13 ?_
        refine mv_lgtZ (tgt := 56) (a := v79.toInt) (b := v129.toInt) d_TrustDeskModel_counts_35 d_TrustDeskModel_counts_36 (by decide) rfl rfl (fun b130 => ?_) (fun b130 => ?_)
        · exact mv_vret d_TrustDeskModel_counts_56 rfl ⟨_, I77, rfl, R80⟩
        · refine mv_lload_n d_TrustDeskModel_counts_39 rfl rfl ?_
          refine mv_aload_n d_TrustDeskModel_counts_40 rfl rfl ?_
          refine tr_getK (k := 68) q128 d_TrustDeskModel_counts_41 f_TrustDeskModel_574_13 ?_
          refine mv_lneZ (tgt := 57) (a := v79.toInt) (b := v129.toInt) d_TrustDeskModel_counts_44 d_TrustDeskModel_counts_45 (by decide) rfl rfl (fun b131 => ?_) (fun b131 => ?_)
          · refine mv_aload_n d_TrustDeskModel_counts_57 rfl rfl ?_
            refine mv_lload_n d_TrustDeskModel_counts_58 rfl rfl ?_
            refine tr_putR (k := 68) I77 R80 t81 rfl ⟨_, rfl⟩ (fun _ h => by cases h) rfl (fun lo hi h => by cases h) (Or.inl (by decide)) d_TrustDeskModel_counts_59 p_TrustDeskModel_574_13 rfl rfl (fun M132 I133 q134 K135 R136 A137 V138 => ?_)
            have z139 := (V138 32 (by decide)).trans z82
            have K140 : ∀ i : Nat, i < 880 → 0 ≤ ra M132 o0 8 i := (by have e9 := ((sA_f A137 (by decide)) : sA [8] _ _ _) 8 rfl; rw [e9]; exact K83)
            clear z82
            refine mv_aload_n d_TrustDeskModel_counts_62 rfl rfl ?_
            refine mv_iload_n d_TrustDeskModel_counts_63 rfl rfl ?_
            refine tr_putR (k := 69) I133 R136 t81 rfl ⟨_, rfl⟩ (fun _ h => by cases h) rfl (fun lo hi h => by cases h) (Or.inl (by decide)) d_TrustDeskModel_counts_64 p_TrustDeskModel_571_13 rfl rfl (fun M141 I142 q143 K144 R145 A146 V147 => ?_)
            have z148 := (V147 32 (by decide)).trans z139
            have K149 : ∀ i : Nat, i < 880 → 0 ≤ ra M141 o0 8 i := (by have e9 := ((sA_f A146 (by decide)) : sA [8] _ _ _) 8 rfl; rw [e9]; exact K140)
            clear z139
            refine mv_iconst (v := 0) d_TrustDeskModel_counts_67 (by decide) ?_
            refine mv_istore (lv' := [(5, .int 0), (3, .long v79), (0, .ref o0), (1, .int x1), (2, .int x2)]) d_TrustDeskModel_counts_68 (by decide) rfl ?_
            have L70_150 : ∀ (k : Nat) (i5_150 : Int32) (T_150 : tm_H) (M_150 : mj_M) (n_150 : Nat), tm_I tm_FT (tm_in w_TrustDeskModel_counts_q1_x) x9 T0 M0 n0 T_150 M_150 n_150 → T_150 o0 = some (0, 13, 0) → 0 ≤ i5_150.toInt → (rI M_150 o0) → (∀ i : Nat, i < 880 → 0 ≤ ra M_150 o0 8 i) → 2147483647 - i5_150.toInt < (k : Int) → mj_V g l kY_TrustDeskModel_counts (d + 4) 70 [(5, .int i5_150), (3, .long v79), (0, .ref o0), (1, .int x1), (2, .int x2)] [] M_150 n_150 0 0 (tm_Q tm_FT (tm_in w_TrustDeskModel_counts_q1_x) x9 T0 M0 n0 (fun r _ M => r = none ∧ rI M o0)) := by
              intro k150
              induction k150 with
              | zero =>
                intro i5_150 T_150 M_150 n_150 I_150 h_q0_150 iv0_150 kKR_150 kK8_150 hk150
                have := mz_hi i5_150
                have := kKR_150.1 15 _ _ rfl
                have := kKR_150.1 16 _ _ rfl
                have := kKR_150.1 19 _ _ rfl
                omega
              | succ k150 ih150 =>
                intro i5_150 T_150 M_150 n_150 I_150 h_q0_150 iv0_150 kKR_150 kK8_150 hk150
                refine mv_iload d_TrustDeskModel_counts_70 rfl ?_
                refine mv_bipush (v := 12) d_TrustDeskModel_counts_72 (by decide) ?_
                have := mz_hi i5_150
                refine mv_icmp_geZ (tgt := 97) (a := i5_150.toInt) (b := 12) d_TrustDeskModel_counts_74 (by decide) rfl (by decide) (fun b151 => ?_) (fun b151 => ?_)
                · exact mv_vret d_TrustDeskModel_counts_97 rfl ⟨_, I_150, rfl, kKR_150⟩
                · refine mv_aload_n d_TrustDeskModel_counts_77 rfl rfl ?_
                  obtain ⟨a153, q152, t_a153⟩ := tm_atR I_150 h_q0_150 (k := 65) rfl
                  refine tr_getK q152 d_TrustDeskModel_counts_78 f_TrustDeskModel_155_13 ?_
                  refine mv_iload d_TrustDeskModel_counts_81 rfl ?_
                  refine mv_aload_n d_TrustDeskModel_counts_83 rfl rfl ?_
                  obtain ⟨a155, q154, t_a155⟩ := tm_atR I_150 h_q0_150 (k := 64) rfl
                  refine tr_getK q154 d_TrustDeskModel_counts_84 f_TrustDeskModel_152_13 ?_
                  refine mv_iload d_TrustDeskModel_counts_87 rfl ?_
                  refine tr_ialdR (o := o0) (k := 64) I_150 q154 t_a155 (by decide) d_TrustDeskModel_counts_89 (vp_in_iff.mpr (by have := kKR_150.1 32 _ _ rfl; omega)) (fun v156 e157 => ?_)
                  refine tr_iastR (k := 65) I_150 kKR_150 (I_150.up h_o0) q152 t_a153 (by decide) (by decide) (fun lo hi h => by cases h) (Or.inl (by decide)) d_TrustDeskModel_counts_90 (vp_in_iff.mpr (by have := kKR_150.1 32 _ _ rfl; omega)) (fun M158 I159 K160 R161 E162 A163 V164 => ?_)
                  have z165 := (V164 32)
                  have K166 : ∀ i : Nat, i < 880 → 0 ≤ ra M158 o0 8 i := (by have e9 := ((sA_a A163 (by decide +kernel)) : sA [8] _ _ _) 8 rfl; rw [e9]; exact kK8_150)
                  refine mv_iinc (v := (i5_150 + 1)) (lv' := [(5, .int (i5_150 + 1)), (3, .long v79), (0, .ref o0), (1, .int x1), (2, .int x2)]) d_TrustDeskModel_counts_91 rfl rfl (by decide) rfl ?_
                  refine mv_goto (tgt := 70) d_TrustDeskModel_counts_94 (by decide) ?_
                  have b167 : (i5_150 + 1 : Int32).toInt = (i5_150.toInt + 1) := mz_add2 rfl (by decide) (by have := R161.1 32 _ _ rfl; omega) (by have := R161.1 32 _ _ rfl; omega)
                  have b168 : (i5_150 + 1).toInt = i5_150.toInt + 1 := mz_addn 1 1 (by decide) (by have := mz_lo i5_150; omega) (by have := mz_hi i5_150; omega)
                  exact (ih150 (i5_150 + 1) T_150 M158 n_150 I159 h_q0_150 (by have := R161.1 32 _ _ rfl; first | omega | decide | exact fun h9 => absurd (by decide) h9) R161 K166 (by have := R161.1 32 _ _ rfl; omega))
            have : (0 : Int32).toInt = 0 := by decide
            exact mv_less (Nat.zero_le _) (Nat.zero_le _) (L70_150 4294967296 0 T75 M141 n74 I142 t81 (by have := R145.1 32 _ _ rfl; first | omega | decide | exact fun h9 => absurd (by decide) h9) R145 K149 (by show (2147483647 - (0 : Int) : Int) < _; decide))
          · refine mv_iload_n d_TrustDeskModel_counts_48 rfl rfl ?_
            refine mv_aload_n d_TrustDeskModel_counts_49 rfl rfl ?_
            refine tr_getK (k := 69) q88 d_TrustDeskModel_counts_50 f_TrustDeskModel_571_13 ?_
            have := mz_hi x2
            have := mz_hi v89
            refine mv_icmp_ltZ (tgt := 57) (a := x2.toInt) (b := v89.toInt) d_TrustDeskModel_counts_53 (by decide) rfl rfl (fun b169 => ?_) (fun b169 => ?_)
            · refine mv_aload_n d_TrustDeskModel_counts_57 rfl rfl ?_
              refine mv_lload_n d_TrustDeskModel_counts_58 rfl rfl ?_
              refine tr_putR (k := 68) I77 R80 t81 rfl ⟨_, rfl⟩ (fun _ h => by cases h) rfl (fun lo hi h => by cases h) (Or.inl (by decide)) d_TrustDeskModel_counts_59 p_TrustDeskModel_574_13 rfl rfl (fun M170 I171 q172 K173 R174 A175 V176 => ?_)
              have z177 := (V176 32 (by decide)).trans z82
              have K178 : ∀ i : Nat, i < 880 → 0 ≤ ra M170 o0 8 i := (by have e9 := ((sA_f A175 (by decide)) : sA [8] _ _ _) 8 rfl; rw [e9]; exact K83)
              clear z82
              refine mv_aload_n d_TrustDeskModel_counts_62 rfl rfl ?_
              refine mv_iload_n d_TrustDeskModel_counts_63 rfl rfl ?_
              refine tr_putR (k := 69) I171 R174 t81 rfl ⟨_, rfl⟩ (fun _ h => by cases h) rfl (fun lo hi h => by cases h) (Or.inl (by decide)) d_TrustDeskModel_counts_64 p_TrustDeskModel_571_13 rfl rfl (fun M179 I180 q181 K182 R183 A184 V185 => ?_)
              have z186 := (V185 32 (by decide)).trans z177
              have K187 : ∀ i : Nat, i < 880 → 0 ≤ ra M179 o0 8 i := (by have e9 := ((sA_f A184 (by decide)) : sA [8] _ _ _) 8 rfl; rw [e9]; exact K178)
              clear z177
              refine mv_iconst (v := 0) d_TrustDeskModel_counts_67 (by decide) ?_
              refine mv_istore (lv' := [(5, .int 0), (3, .long v79), (0, .ref o0), (1, .int x1), (2, .int x2)]) d_TrustDeskModel_counts_68 (by decide) rfl ?_
              have L70_188 : ∀ (k : Nat) (i5_188 : Int32) (T_188 : tm_H) (M_188 : mj_M) (n_188 : Nat), tm_I tm_FT (tm_in w_TrustDeskModel_counts_q1_x) x9 T0 M0 n0 T_188 M_188 n_188 → T_188 o0 = some (0, 13, 0) → 0 ≤ i5_188.toInt → (rI M_188 o0) → (∀ i : Nat, i < 880 → 0 ≤ ra M_188 o0 8 i) → 2147483647 - i5_188.toInt < (k : Int) → mj_V g l kY_TrustDeskModel_counts (d + 4) 70 [(5, .int i5_188), (3, .long v79), (0, .ref o0), (1, .int x1), (2, .int x2)] [] M_188 n_188 0 0 (tm_Q tm_FT (tm_in w_TrustDeskModel_counts_q1_x) x9 T0 M0 n0 (fun r _ M => r = none ∧ rI M o0)) := by
                intro k188
                induction k188 with
                | zero =>
                  intro i5_188 T_188 M_188 n_188 I_188 h_q0_188 iv0_188 kKR_188 kK8_188 hk188
                  have := mz_hi i5_188
                  have := kKR_188.1 15 _ _ rfl
                  have := kKR_188.1 16 _ _ rfl
                  have := kKR_188.1 19 _ _ rfl
                  omega
                | succ k188 ih188 =>
                  intro i5_188 T_188 M_188 n_188 I_188 h_q0_188 iv0_188 kKR_188 kK8_188 hk188
                  refine mv_iload d_TrustDeskModel_counts_70 rfl ?_
                  refine mv_bipush (v := 12) d_TrustDeskModel_counts_72 (by decide) ?_
                  have := mz_hi i5_188
                  refine mv_icmp_geZ (tgt := 97) (a := i5_188.toInt) (b := 12) d_TrustDeskModel_counts_74 (by decide) rfl (by decide) (fun b189 => ?_) (fun b189 => ?_)
                  · exact mv_vret d_TrustDeskModel_counts_97 rfl ⟨_, I_188, rfl, kKR_188⟩
                  · refine mv_aload_n d_TrustDeskModel_counts_77 rfl rfl ?_
                    obtain ⟨a191, q190, t_a191⟩ := tm_atR I_188 h_q0_188 (k := 65) rfl
                    refine tr_getK q190 d_TrustDeskModel_counts_78 f_TrustDeskModel_155_13 ?_
                    refine mv_iload d_TrustDeskModel_counts_81 rfl ?_
                    refine mv_aload_n d_TrustDeskModel_counts_83 rfl rfl ?_
                    obtain ⟨a193, q192, t_a193⟩ := tm_atR I_188 h_q0_188 (k := 64) rfl
                    refine tr_getK q192 d_TrustDeskModel_counts_84 f_TrustDeskModel_152_13 ?_
                    refine mv_iload d_TrustDeskModel_counts_87 rfl ?_
                    refine tr_ialdR (o := o0) (k := 64) I_188 q192 t_a193 (by decide) d_TrustDeskModel_counts_89 (vp_in_iff.mpr (by have := kKR_188.1 32 _ _ rfl; omega)) (fun v194 e195 => ?_)
                    refine tr_iastR (k := 65) I_188 kKR_188 (I_188.up h_o0) q190 t_a191 (by decide) (by decide) (fun lo hi h => by cases h) (Or.inl (by decide)) d_TrustDeskModel_counts_90 (vp_in_iff.mpr (by have := kKR_188.1 32 _ _ rfl; omega)) (fun M196 I197 K198 R199 E200 A201 V202 => ?_)
                    have z203 := (V202 32)
                    have K204 : ∀ i : Nat, i < 880 → 0 ≤ ra M196 o0 8 i := (by have e9 := ((sA_a A201 (by decide +kernel)) : sA [8] _ _ _) 8 rfl; rw [e9]; exact kK8_188)
                    refine mv_iinc (v := (i5_188 + 1)) (lv' := [(5, .int (i5_188 + 1)), (3, .long v79), (0, .ref o0), (1, .int x1), (2, .int x2)]) d_TrustDeskModel_counts_91 rfl rfl (by decide) rfl ?_
                    refine mv_goto (tgt := 70) d_TrustDeskModel_counts_94 (by decide) ?_
                    have b205 : (i5_188 + 1 : Int32).toInt = (i5_188.toInt + 1) := mz_add2 rfl (by decide) (by have := R199.1 32 _ _ rfl; omega) (by have := R199.1 32 _ _ rfl; omega)
                    have b206 : (i5_188 + 1).toInt = i5_188.toInt + 1 := mz_addn 1 1 (by decide) (by have := mz_lo i5_188; omega) (by have := mz_hi i5_188; omega)
                    exact (ih188 (i5_188 + 1) T_188 M196 n_188 I197 h_q0_188 (by have := R199.1 32 _ _ rfl; first | omega | decide | exact fun h9 => absurd (by decide) h9) R199 K204 (by have := R199.1 32 _ _ rfl; omega))
              have : (0 : Int32).toInt = 0 := by decide
              exact mv_less (Nat.zero_le _) (Nat.zero_le _) (L70_188 4294967296 0 T75 M179 n74 I180 t81 (by have := R183.1 32 _ _ rfl; first | omega | decide | exact fun h9 => absurd (by decide) h9) R183 K187 (by show (2147483647 - (0 : Int) : Int) < _; decide))
            · exact mv_vret d_TrustDeskModel_counts_56 rfl ⟨_, I77, rfl, R80⟩
def w_TrustDeskModel_counts_q2_x : List Nat := [1368, 1369, 20064, 20065]
set_option maxHeartbeats 100000000 in theorem tc_TrustDeskModel_counts_q2_x {g : mj_G} {l : Launch} {d : Nat} {T0 : tm_H} {M0 : mj_M} {n0 x9 : Nat} {o0 : Nat} {x1 : Int32} {x2 : Int32} (h_o0 : T0 o0 = some (0, 13, 0)) (yR : rI M0 o0) (y8 : ∀ i : Nat, i < 880 → 0 ≤ ra M0 o0 8 i) (yl : 10 ≤ x1.toInt ∧ x1.toInt ≤ rv M0 o0 32 ∧ 0 ≤ x2.toInt ∧ x2.toInt ≤ x1.toInt) (I0 : tm_I tm_FT (tm_in w_TrustDeskModel_counts_q2_x) x9 T0 M0 n0 T0 M0 n0) : mj_Met g l kY_TrustDeskModel_counts (d + 5) [.ref o0, .int x1, .int x2] M0 n0 0 0 (tm_Q tm_FT (tm_in w_TrustDeskModel_counts_q2_x) x9 T0 M0 n0 (fun r _ M => r = none ∧ rI M o0)) := by
  refine mj_enter (by decide) (Nat.le_of_ble_eq_true rfl) ?_
  have K1 : ∀ i : Nat, i < 880 → 0 ≤ ra M0 o0 8 i := y8
  refine mv_iload_n d_TrustDeskModel_counts_0 rfl rfl ?_
  refine mv_aload_n d_TrustDeskModel_counts_1 rfl rfl ?_
  obtain ⟨v3, q2⟩ := tm_atI I0 h_o0 (k := 32) rfl
  refine tr_getK q2 d_TrustDeskModel_counts_2 f_TrustDeskModel_415_13 ?_
  have := yR.f (k := 32) q2 rfl
  have := tm_rv q2
  have := mz_hi x1
  have := mz_hi v3
  refine mv_icmp_neZ (tgt := 98) (a := x1.toInt) (b := v3.toInt) d_TrustDeskModel_counts_5 (by decide) rfl rfl (fun b4 => ?_) (fun b4 => ?_)
  · refine mv_aload_n d_TrustDeskModel_counts_98 rfl rfl ?_
    obtain ⟨v6, q5⟩ := tm_atI I0 h_o0 (k := 67) rfl
    refine tr_getK q5 d_TrustDeskModel_counts_99 f_TrustDeskModel_560_13 ?_
    refine mv_iload_n d_TrustDeskModel_counts_102 rfl rfl ?_
    refine mv_ishr d_TrustDeskModel_counts_103 ?_
    refine mv_iconst (v := 1) d_TrustDeskModel_counts_104 (by decide) ?_
    refine mv_iand d_TrustDeskModel_counts_105 ?_
    have := mz_hi ((v6 >>> (x1 &&& 31)) &&& 1)
    refine mv_if_neZ (tgt := 118) (a := ((v6 >>> (x1 &&& 31)) &&& 1).toInt) d_TrustDeskModel_counts_106 (by decide) rfl (fun b7 => ?_) (fun b7 => ?_)
    · refine mv_iconst (v := 0) d_TrustDeskModel_counts_118 (by decide) ?_
      refine mv_istore_n (lv' := [(3, .int 0), (0, .ref o0), (1, .int x1), (2, .int x2)]) d_TrustDeskModel_counts_119 rfl (by decide) rfl ?_
      have L120_8 : ∀ (k : Nat) (i3_8 : Int32) (T_8 : tm_H) (M_8 : mj_M) (n_8 : Nat), tm_I tm_FT (tm_in w_TrustDeskModel_counts_q2_x) x9 T0 M0 n0 T_8 M_8 n_8 → T_8 o0 = some (0, 13, 0) → 0 ≤ i3_8.toInt → rv M_8 o0 32 = rv M0 o0 32 → (rI M_8 o0) → (∀ i : Nat, i < 880 → 0 ≤ ra M_8 o0 8 i) → 2147483647 - i3_8.toInt < (k : Int) → mj_V g l kY_TrustDeskModel_counts (d + 5) 120 [(3, .int i3_8), (0, .ref o0), (1, .int x1), (2, .int x2)] [] M_8 n_8 0 0 (tm_Q tm_FT (tm_in w_TrustDeskModel_counts_q2_x) x9 T0 M0 n0 (fun r _ M => r = none ∧ rI M o0)) := by
        intro k8
        induction k8 with
        | zero =>
          intro i3_8 T_8 M_8 n_8 I_8 h_q0_8 iv0_8 iv1_8 kKR_8 kK8_8 hk8
          have := mz_hi i3_8
          have := kKR_8.1 15 _ _ rfl
          have := kKR_8.1 16 _ _ rfl
          have := kKR_8.1 19 _ _ rfl
          omega
        | succ k8 ih8 =>
          intro i3_8 T_8 M_8 n_8 I_8 h_q0_8 iv0_8 iv1_8 kKR_8 kK8_8 hk8
          refine mv_iload_n d_TrustDeskModel_counts_120 rfl rfl ?_
          refine mv_iload_n d_TrustDeskModel_counts_121 rfl rfl ?_
          have := mz_hi i3_8
          have := mz_hi x2
          refine mv_icmp_gtZ (tgt := 163) (a := i3_8.toInt) (b := x2.toInt) d_TrustDeskModel_counts_122 (by decide) rfl rfl (fun b9 => ?_) (fun b9 => ?_)
          · exact mv_vret d_TrustDeskModel_counts_163 rfl ⟨_, I_8, rfl, kKR_8⟩
          · refine mv_iload_n d_TrustDeskModel_counts_125 rfl rfl ?_
            refine mv_bipush (v := 8) d_TrustDeskModel_counts_126 (by decide) ?_
            have := mz_hi i3_8
            refine mv_icmp_geZ (tgt := 163) (a := i3_8.toInt) (b := 8) d_TrustDeskModel_counts_128 (by decide) rfl (by decide) (fun b10 => ?_) (fun b10 => ?_)
            · exact mv_vret d_TrustDeskModel_counts_163 rfl ⟨_, I_8, rfl, kKR_8⟩
            · refine mv_aload_n d_TrustDeskModel_counts_131 rfl rfl ?_
              obtain ⟨a12, q11, t_a12⟩ := tm_atR I_8 h_q0_8 (k := 64) rfl
              refine tr_getK q11 d_TrustDeskModel_counts_132 f_TrustDeskModel_152_13 ?_
              refine mv_iload_n d_TrustDeskModel_counts_135 rfl rfl ?_
              refine mv_iload_n d_TrustDeskModel_counts_136 rfl rfl ?_
              refine tr_iastR (k := 64) I_8 kKR_8 (I_8.up h_o0) q11 t_a12 (by decide) (by decide) (fun lo hi h => by cases h) (Or.inl (by decide)) d_TrustDeskModel_counts_137 (vp_in_iff.mpr (by have := kKR_8.1 32 _ _ rfl; omega)) (fun M13 I14 K15 R16 E17 A18 V19 => ?_)
              have z20 := (V19 32)
              have K21 : ∀ i : Nat, i < 880 → 0 ≤ ra M13 o0 8 i := (by have e9 := ((sA_a A18 (by decide +kernel)) : sA [8] _ _ _) 8 rfl; rw [e9]; exact kK8_8)
              refine mv_aload_n d_TrustDeskModel_counts_138 rfl rfl ?_
              refine mv_iload_n d_TrustDeskModel_counts_139 rfl rfl ?_
              refine mv_iconst (v := 1) d_TrustDeskModel_counts_140 (by decide) ?_
              refine mv_iadd d_TrustDeskModel_counts_141 ?_
              refine mv_iload_n d_TrustDeskModel_counts_142 rfl rfl ?_
              refine mv_iload_n d_TrustDeskModel_counts_143 rfl rfl ?_
              have := mz_hi i3_8
              have := mz_hi x2
              refine mv_icmp_neZ (tgt := 153) (a := i3_8.toInt) (b := x2.toInt) d_TrustDeskModel_counts_144 (by decide) rfl rfl (fun b22 => ?_) (fun b22 => ?_)
              · refine mv_iload_n d_TrustDeskModel_counts_153 rfl rfl ?_
                obtain ⟨_, b29, -⟩ := I14.1 _ _ h_q0_8
                have b30 : (x1 + 1 : Int32).toInt = (x1.toInt + 1) := mz_add2 rfl (by decide) (by have := R16.1 32 _ _ rfl; omega) (by have := R16.1 32 _ _ rfl; omega)
                refine mv_callV (kc' := 0) (ks' := 0) (As := [.int (x1 + 1), .int x2]) (st9 := [.int x2, .int (x1 + 1), .ref o0]) d_TrustDeskModel_counts_154 lV_TrustDeskModel_578 b29 rfl (tc_TrustDeskModel_counts_q1_x (d := d) (x9 := x9) (o0 := o0) (x1 := (x1 + 1)) (x2 := x2) h_q0_8 R16 K21 (by have := R16.1 32 _ _ rfl; omega) I14.start) rfl (Nat.le_of_ble_eq_true rfl) (Nat.le_of_ble_eq_true rfl) (Nat.le_of_ble_eq_true rfl) (hst := rfl) (fun b23r M24 n25 b23 => ?_)
                obtain ⟨T26, J27, rfl, R31⟩ := b23
                have I28 := I14.call J27 (tm_sub (by decide)) (Or.inl rfl)
                have t32 := J27.up h_q0_8
                have z33 := (rv_c I14 J27 (I14.up h_o0) (k := 32) rfl).trans z20
                have K34 : ∀ i : Nat, i < 880 → 0 ≤ ra M24 o0 8 i := (by have e9 := ((sA_c I14 J27 (I14.up h_o0) (by decide +kernel)) : sA [8] _ _ _) 8 rfl; rw [e9]; exact K21)
                clear z20
                have q35 := J27.keep h_q0_8 (by decide) (K15 _ 13 64 _ q11)
                have t36 := J27.up t_a12
                refine mv_iinc (v := (i3_8 + 1)) (lv' := [(3, .int (i3_8 + 1)), (0, .ref o0), (1, .int x1), (2, .int x2)]) d_TrustDeskModel_counts_157 rfl rfl (by decide) rfl ?_
                refine mv_goto (tgt := 120) d_TrustDeskModel_counts_160 (by decide) ?_
                have b37 : (i3_8 + 1 : Int32).toInt = (i3_8.toInt + 1) := mz_add2 rfl (by decide) (by have := R31.1 32 _ _ rfl; omega) (by have := R31.1 32 _ _ rfl; omega)
                have b38 : (i3_8 + 1).toInt = i3_8.toInt + 1 := mz_addn 1 1 (by decide) (by have := mz_lo i3_8; omega) (by have := mz_hi i3_8; omega)
                exact (ih8 (i3_8 + 1) T26 M24 n25 I28 t32 (by have := R31.1 32 _ _ rfl; first | omega | decide | exact fun h9 => absurd (by decide) h9) (by have := R31.1 32 _ _ rfl; first | omega | decide | exact fun h9 => absurd (by decide) h9) R31 K34 (by have := R31.1 32 _ _ rfl; omega))
              · refine mv_iload_n d_TrustDeskModel_counts_147 rfl rfl ?_
                refine mv_iconst (v := 1) d_TrustDeskModel_counts_148 (by decide) ?_
                refine mv_iadd d_TrustDeskModel_counts_149 ?_
                refine mv_goto (tgt := 154) d_TrustDeskModel_counts_150 (by decide) ?_
                obtain ⟨_, b45, -⟩ := I14.1 _ _ h_q0_8
                have b46 : (x1 + 1 : Int32).toInt = (x1.toInt + 1) := mz_add2 rfl (by decide) (by have := R16.1 32 _ _ rfl; omega) (by have := R16.1 32 _ _ rfl; omega)
                have b47 : (x2 + 1 : Int32).toInt = (x2.toInt + 1) := mz_add2 rfl (by decide) (by have := R16.1 32 _ _ rfl; omega) (by have := R16.1 32 _ _ rfl; omega)
                refine mv_callV (kc' := 0) (ks' := 0) (As := [.int (x1 + 1), .int (x2 + 1)]) (st9 := [.int (x2 + 1), .int (x1 + 1), .ref o0]) d_TrustDeskModel_counts_154 lV_TrustDeskModel_578 b45 rfl (tc_TrustDeskModel_counts_q1_x (d := d) (x9 := x9) (o0 := o0) (x1 := (x1 + 1)) (x2 := (x2 + 1)) h_q0_8 R16 K21 (by have := R16.1 32 _ _ rfl; omega) I14.start) rfl (Nat.le_of_ble_eq_true rfl) (Nat.le_of_ble_eq_true rfl) (Nat.le_of_ble_eq_true rfl) (hst := rfl) (fun b39r M40 n41 b39 => ?_)
                obtain ⟨T42, J43, rfl, R48⟩ := b39
                have I44 := I14.call J43 (tm_sub (by decide)) (Or.inl rfl)
                have t49 := J43.up h_q0_8
                have z50 := (rv_c I14 J43 (I14.up h_o0) (k := 32) rfl).trans z20
                have K51 : ∀ i : Nat, i < 880 → 0 ≤ ra M40 o0 8 i := (by have e9 := ((sA_c I14 J43 (I14.up h_o0) (by decide +kernel)) : sA [8] _ _ _) 8 rfl; rw [e9]; exact K21)
                clear z20
                have q52 := J43.keep h_q0_8 (by decide) (K15 _ 13 64 _ q11)
                have t53 := J43.up t_a12
                refine mv_iinc (v := (i3_8 + 1)) (lv' := [(3, .int (i3_8 + 1)), (0, .ref o0), (1, .int x1), (2, .int x2)]) d_TrustDeskModel_counts_157 rfl rfl (by decide) rfl ?_
                refine mv_goto (tgt := 120) d_TrustDeskModel_counts_160 (by decide) ?_
                have b54 : (i3_8 + 1 : Int32).toInt = (i3_8.toInt + 1) := mz_add2 rfl (by decide) (by have := R48.1 32 _ _ rfl; omega) (by have := R48.1 32 _ _ rfl; omega)
                have b55 : (i3_8 + 1).toInt = i3_8.toInt + 1 := mz_addn 1 1 (by decide) (by have := mz_lo i3_8; omega) (by have := mz_hi i3_8; omega)
                exact (ih8 (i3_8 + 1) T42 M40 n41 I44 t49 (by have := R48.1 32 _ _ rfl; first | omega | decide | exact fun h9 => absurd (by decide) h9) (by have := R48.1 32 _ _ rfl; first | omega | decide | exact fun h9 => absurd (by decide) h9) R48 K51 (by have := R48.1 32 _ _ rfl; omega))
      have : (0 : Int32).toInt = 0 := by decide
      exact mv_less (Nat.zero_le _) (Nat.zero_le _) (L120_8 4294967296 0 T0 M0 n0 I0 h_o0 (by have := yR.1 32 _ _ rfl; first | omega | decide | exact fun h9 => absurd (by decide) h9) (by have := yR.1 32 _ _ rfl; first | omega | decide | exact fun h9 => absurd (by decide) h9) yR K1 (by show (2147483647 - (0 : Int) : Int) < _; decide))
    · refine mv_aload_n d_TrustDeskModel_counts_109 rfl rfl ?_
      refine mv_iload_n d_TrustDeskModel_counts_110 rfl rfl ?_
      refine mv_iconst (v := 1) d_TrustDeskModel_counts_111 (by decide) ?_
      refine mv_iadd d_TrustDeskModel_counts_112 ?_
      refine mv_iload_n d_TrustDeskModel_counts_113 rfl rfl ?_
      obtain ⟨_, b62, -⟩ := I0.1 _ _ h_o0
      have b63 : (x1 + 1 : Int32).toInt = (x1.toInt + 1) := mz_add2 rfl (by decide) (by have := yR.1 32 _ _ rfl; omega) (by have := yR.1 32 _ _ rfl; omega)
      refine mv_callV (kc' := 0) (ks' := 0) (As := [.int (x1 + 1), .int x2]) (st9 := [.int x2, .int (x1 + 1), .ref o0]) d_TrustDeskModel_counts_114 lV_TrustDeskModel_578 b62 rfl (tc_TrustDeskModel_counts_q1_x (d := d) (x9 := x9) (o0 := o0) (x1 := (x1 + 1)) (x2 := x2) h_o0 yR K1 (by have := yR.1 32 _ _ rfl; omega) I0.start) rfl (Nat.le_of_ble_eq_true rfl) (Nat.le_of_ble_eq_true rfl) (Nat.le_of_ble_eq_true rfl) (hst := rfl) (fun b56r M57 n58 b56 => ?_)
      obtain ⟨T59, J60, rfl, R64⟩ := b56
      have I61 := I0.call J60 (tm_sub (by decide)) (Or.inl rfl)
      have t65 := J60.up h_o0
      have z66 := (rv_c I0 J60 (I0.up h_o0) (k := 32) rfl)
      have K67 : ∀ i : Nat, i < 880 → 0 ≤ ra M57 o0 8 i := (by have e9 := ((sA_c I0 J60 (I0.up h_o0) (by decide +kernel)) : sA [8] _ _ _) 8 rfl; rw [e9]; exact K1)
      have q68 := J60.keep h_o0 (by decide) q2
      have q69 := J60.keep h_o0 (by decide) q5
      exact mv_vret d_TrustDeskModel_counts_117 rfl ⟨_, I61, rfl, R64⟩
  · refine mv_aload_n d_TrustDeskModel_counts_8 rfl rfl ?_
    refine mv_aload_n d_TrustDeskModel_counts_9 rfl rfl ?_
    obtain ⟨a71, q70, t_a71⟩ := tm_atR I0 h_o0 (k := 64) rfl
    refine tr_getK q70 d_TrustDeskModel_counts_10 f_TrustDeskModel_152_13 ?_
    obtain ⟨_, b78, -⟩ := I0.1 _ _ h_o0
    refine mv_callV (kc' := 0) (ks' := 0) (As := [.ref a71]) (st9 := [.ref a71, .ref o0]) d_TrustDeskModel_counts_13 lV_TrustDeskModel_567 b78 rfl (tc_TrustDeskModel_idle_q64_x (d := (d + 2)) (x9 := x9) (o0 := o0) (o1 := a71) h_o0 t_a71 yR K1 I0.start) rfl (Nat.le_of_ble_eq_true rfl) (Nat.le_of_ble_eq_true rfl) (Nat.le_of_ble_eq_true rfl) (hst := rfl) (fun b72r M73 n74 b72 => ?_)
    obtain ⟨T75, J76, v79, rfl, R80⟩ := b72
    have I77 := I0.call J76 (tm_sub (by decide)) (Or.inl rfl)
    have t81 := J76.up h_o0
    have z82 := (rv_c I0 J76 (I0.up h_o0) (k := 32) rfl)
    have K83 : ∀ i : Nat, i < 880 → 0 ≤ ra M73 o0 8 i := (by have e9 := ((sA_c I0 J76 (I0.up h_o0) (by decide +kernel)) : sA [8] _ _ _) 8 rfl; rw [e9]; exact K1)
    have q84 := J76.keep h_o0 (by decide) q2
    have q85 := J76.keep h_o0 (by decide) q70
    have t86 := J76.up t_a71
    refine mv_lstore_n (lv' := [(3, .long v79), (0, .ref o0), (1, .int x1), (2, .int x2)]) d_TrustDeskModel_counts_16 rfl (by decide) rfl ?_
    refine mv_lload_n d_TrustDeskModel_counts_17 rfl rfl ?_
    refine mv_lconst (v := 0) d_TrustDeskModel_counts_18 (by decide) ?_
    refine mv_lltZ (tgt := 56) (a := v79.toInt) (b := 0) d_TrustDeskModel_counts_19 d_TrustDeskModel_counts_20 (by decide) rfl (by decide) (fun b87 => ?_) (fun b87 => ?_)
    · exact mv_vret d_TrustDeskModel_counts_56 rfl ⟨_, I77, rfl, R80⟩
    · refine mv_aload_n d_TrustDeskModel_counts_23 rfl rfl ?_
      obtain ⟨v89, q88⟩ := tm_atI I77 t81 (k := 69) rfl
      refine tr_getK q88 d_TrustDeskModel_counts_24 f_TrustDeskModel_571_13 ?_
      have := mz_hi v89
      refine mv_if_eqZ (tgt := 57) (a := v89.toInt) d_TrustDeskModel_counts_27 (by decide) rfl (fun b90 => ?_) (fun b90 => ?_)
      · refine mv_aload_n d_TrustDeskModel_counts_57 rfl rfl ?_
        refine mv_lload_n d_TrustDeskModel_counts_58 rfl rfl ?_
        refine tr_putR (k := 68) I77 R80 t81 rfl ⟨_, rfl⟩ (fun _ h => by cases h) rfl (fun lo hi h => by cases h) (Or.inl (by decide)) d_TrustDeskModel_counts_59 p_TrustDeskModel_574_13 rfl rfl (fun M91 I92 q93 K94 R95 A96 V97 => ?_)
        have z98 := (V97 32 (by decide)).trans z82
        have K99 : ∀ i : Nat, i < 880 → 0 ≤ ra M91 o0 8 i := (by have e9 := ((sA_f A96 (by decide)) : sA [8] _ _ _) 8 rfl; rw [e9]; exact K83)
        clear z82
        refine mv_aload_n d_TrustDeskModel_counts_62 rfl rfl ?_
        refine mv_iload_n d_TrustDeskModel_counts_63 rfl rfl ?_
        refine tr_putR (k := 69) I92 R95 t81 rfl ⟨_, rfl⟩ (fun _ h => by cases h) rfl (fun lo hi h => by cases h) (Or.inl (by decide)) d_TrustDeskModel_counts_64 p_TrustDeskModel_571_13 rfl rfl (fun M100 I101 q102 K103 R104 A105 V106 => ?_)
        have z107 := (V106 32 (by decide)).trans z98
        have K108 : ∀ i : Nat, i < 880 → 0 ≤ ra M100 o0 8 i := (by have e9 := ((sA_f A105 (by decide)) : sA [8] _ _ _) 8 rfl; rw [e9]; exact K99)
        clear z98
        refine mv_iconst (v := 0) d_TrustDeskModel_counts_67 (by decide) ?_
        refine mv_istore (lv' := [(5, .int 0), (3, .long v79), (0, .ref o0), (1, .int x1), (2, .int x2)]) d_TrustDeskModel_counts_68 (by decide) rfl ?_
        have L70_109 : ∀ (k : Nat) (i5_109 : Int32) (T_109 : tm_H) (M_109 : mj_M) (n_109 : Nat), tm_I tm_FT (tm_in w_TrustDeskModel_counts_q2_x) x9 T0 M0 n0 T_109 M_109 n_109 → T_109 o0 = some (0, 13, 0) → 0 ≤ i5_109.toInt → (rI M_109 o0) → (∀ i : Nat, i < 880 → 0 ≤ ra M_109 o0 8 i) → 2147483647 - i5_109.toInt < (k : Int) → mj_V g l kY_TrustDeskModel_counts (d + 5) 70 [(5, .int i5_109), (3, .long v79), (0, .ref o0), (1, .int x1), (2, .int x2)] [] M_109 n_109 0 0 (tm_Q tm_FT (tm_in w_TrustDeskModel_counts_q2_x) x9 T0 M0 n0 (fun r _ M => r = none ∧ rI M o0)) := by
          intro k109
          induction k109 with
          | zero =>
            intro i5_109 T_109 M_109 n_109 I_109 h_q0_109 iv0_109 kKR_109 kK8_109 hk109
            have := mz_hi i5_109
            have := kKR_109.1 15 _ _ rfl
            have := kKR_109.1 16 _ _ rfl
            have := kKR_109.1 19 _ _ rfl
            omega
          | succ k109 ih109 =>
            intro i5_109 T_109 M_109 n_109 I_109 h_q0_109 iv0_109 kKR_109 kK8_109 hk109
            refine mv_iload d_TrustDeskModel_counts_70 rfl ?_
            refine mv_bipush (v := 12) d_TrustDeskModel_counts_72 (by decide) ?_
            have := mz_hi i5_109
            refine mv_icmp_geZ (tgt := 97) (a := i5_109.toInt) (b := 12) d_TrustDeskModel_counts_74 (by decide) rfl (by decide) (fun b110 => ?_) (fun b110 => ?_)
            · exact mv_vret d_TrustDeskModel_counts_97 rfl ⟨_, I_109, rfl, kKR_109⟩
            · refine mv_aload_n d_TrustDeskModel_counts_77 rfl rfl ?_
              obtain ⟨a112, q111, t_a112⟩ := tm_atR I_109 h_q0_109 (k := 65) rfl
              refine tr_getK q111 d_TrustDeskModel_counts_78 f_TrustDeskModel_155_13 ?_
              refine mv_iload d_TrustDeskModel_counts_81 rfl ?_
              refine mv_aload_n d_TrustDeskModel_counts_83 rfl rfl ?_
              obtain ⟨a114, q113, t_a114⟩ := tm_atR I_109 h_q0_109 (k := 64) rfl
              refine tr_getK q113 d_TrustDeskModel_counts_84 f_TrustDeskModel_152_13 ?_
              refine mv_iload d_TrustDeskModel_counts_87 rfl ?_
              refine tr_ialdR (o := o0) (k := 64) I_109 q113 t_a114 (by decide) d_TrustDeskModel_counts_89 (vp_in_iff.mpr (by have := kKR_109.1 32 _ _ rfl; omega)) (fun v115 e116 => ?_)
              refine tr_iastR (k := 65) I_109 kKR_109 (I_109.up h_o0) q111 t_a112 (by decide) (by decide) (fun lo hi h => by cases h) (Or.inl (by decide)) d_TrustDeskModel_counts_90 (vp_in_iff.mpr (by have := kKR_109.1 32 _ _ rfl; omega)) (fun M117 I118 K119 R120 E121 A122 V123 => ?_)
              have z124 := (V123 32)
              have K125 : ∀ i : Nat, i < 880 → 0 ≤ ra M117 o0 8 i := (by have e9 := ((sA_a A122 (by decide +kernel)) : sA [8] _ _ _) 8 rfl; rw [e9]; exact kK8_109)
              refine mv_iinc (v := (i5_109 + 1)) (lv' := [(5, .int (i5_109 + 1)), (3, .long v79), (0, .ref o0), (1, .int x1), (2, .int x2)]) d_TrustDeskModel_counts_91 rfl rfl (by decide) rfl ?_
              refine mv_goto (tgt := 70) d_TrustDeskModel_counts_94 (by decide) ?_
              have b126 : (i5_109 + 1 : Int32).toInt = (i5_109.toInt + 1) := mz_add2 rfl (by decide) (by have := R120.1 32 _ _ rfl; omega) (by have := R120.1 32 _ _ rfl; omega)
              have b127 : (i5_109 + 1).toInt = i5_109.toInt + 1 := mz_addn 1 1 (by decide) (by have := mz_lo i5_109; omega) (by have := mz_hi i5_109; omega)
              exact (ih109 (i5_109 + 1) T_109 M117 n_109 I118 h_q0_109 (by have := R120.1 32 _ _ rfl; first | omega | decide | exact fun h9 => absurd (by decide) h9) R120 K125 (by have := R120.1 32 _ _ rfl; omega))
        have : (0 : Int32).toInt = 0 := by decide
        exact mv_less (Nat.zero_le _) (Nat.zero_le _) (L70_109 4294967296 0 T75 M100 n74 I101 t81 (by have := R104.1 32 _ _ rfl; first | omega | decide | exact fun h9 => absurd (by decide) h9) R104 K108 (by show (2147483647 - (0 : Int) : Int) < _; decide))
      · refine mv_lload_n d_TrustDeskModel_counts_30 rfl rfl ?_
        refine mv_aload_n d_TrustDeskModel_counts_31 rfl rfl ?_
        obtain ⟨v129, q128⟩ := tm_atL I77 t81 (k := 68) rfl
        refine tr_getK q128 d_TrustDeskModel_counts_32 f_TrustDeskModel_574_13 ?_
        refine mv_lgtZ (tgt := 56) (a := v79.toInt) (b := v129.toInt) d_TrustDeskModel_counts_35 d_TrustDeskModel_counts_36 (by decide) rfl rfl (fun b130 => ?_) (fun b130 => ?_)
        · exact mv_vret d_TrustDeskModel_counts_56 rfl ⟨_, I77, rfl, R80⟩
        · refine mv_lload_n d_TrustDeskModel_counts_39 rfl rfl ?_
          refine mv_aload_n d_TrustDeskModel_counts_40 rfl rfl ?_
          refine tr_getK (k := 68) q128 d_TrustDeskModel_counts_41 f_TrustDeskModel_574_13 ?_
          refine mv_lneZ (tgt := 57) (a := v79.toInt) (b := v129.toInt) d_TrustDeskModel_counts_44 d_TrustDeskModel_counts_45 (by decide) rfl rfl (fun b131 => ?_) (fun b131 => ?_)
          · refine mv_aload_n d_TrustDeskModel_counts_57 rfl rfl ?_
            refine mv_lload_n d_TrustDeskModel_counts_58 rfl rfl ?_
            refine tr_putR (k := 68) I77 R80 t81 rfl ⟨_, rfl⟩ (fun _ h => by cases h) rfl (fun lo hi h => by cases h) (Or.inl (by decide)) d_TrustDeskModel_counts_59 p_TrustDeskModel_574_13 rfl rfl (fun M132 I133 q134 K135 R136 A137 V138 => ?_)
            have z139 := (V138 32 (by decide)).trans z82
            have K140 : ∀ i : Nat, i < 880 → 0 ≤ ra M132 o0 8 i := (by have e9 := ((sA_f A137 (by decide)) : sA [8] _ _ _) 8 rfl; rw [e9]; exact K83)
            clear z82
            refine mv_aload_n d_TrustDeskModel_counts_62 rfl rfl ?_
            refine mv_iload_n d_TrustDeskModel_counts_63 rfl rfl ?_
            refine tr_putR (k := 69) I133 R136 t81 rfl ⟨_, rfl⟩ (fun _ h => by cases h) rfl (fun lo hi h => by cases h) (Or.inl (by decide)) d_TrustDeskModel_counts_64 p_TrustDeskModel_571_13 rfl rfl (fun M141 I142 q143 K144 R145 A146 V147 => ?_)
            have z148 := (V147 32 (by decide)).trans z139
            have K149 : ∀ i : Nat, i < 880 → 0 ≤ ra M141 o0 8 i := (by have e9 := ((sA_f A146 (by decide)) : sA [8] _ _ _) 8 rfl; rw [e9]; exact K140)
            clear z139
            refine mv_iconst (v := 0) d_TrustDeskModel_counts_67 (by decide) ?_
            refine mv_istore (lv' := [(5, .int 0), (3, .long v79), (0, .ref o0), (1, .int x1), (2, .int x2)]) d_TrustDeskModel_counts_68 (by decide) rfl ?_
            have L70_150 : ∀ (k : Nat) (i5_150 : Int32) (T_150 : tm_H) (M_150 : mj_M) (n_150 : Nat), tm_I tm_FT (tm_in w_TrustDeskModel_counts_q2_x) x9 T0 M0 n0 T_150 M_150 n_150 → T_150 o0 = some (0, 13, 0) → 0 ≤ i5_150.toInt → (rI M_150 o0) → (∀ i : Nat, i < 880 → 0 ≤ ra M_150 o0 8 i) → 2147483647 - i5_150.toInt < (k : Int) → mj_V g l kY_TrustDeskModel_counts (d + 5) 70 [(5, .int i5_150), (3, .long v79), (0, .ref o0), (1, .int x1), (2, .int x2)] [] M_150 n_150 0 0 (tm_Q tm_FT (tm_in w_TrustDeskModel_counts_q2_x) x9 T0 M0 n0 (fun r _ M => r = none ∧ rI M o0)) := by
              intro k150
              induction k150 with
              | zero =>
                intro i5_150 T_150 M_150 n_150 I_150 h_q0_150 iv0_150 kKR_150 kK8_150 hk150
                have := mz_hi i5_150
                have := kKR_150.1 15 _ _ rfl
                have := kKR_150.1 16 _ _ rfl
                have := kKR_150.1 19 _ _ rfl
                omega
              | succ k150 ih150 =>
                intro i5_150 T_150 M_150 n_150 I_150 h_q0_150 iv0_150 kKR_150 kK8_150 hk150
                refine mv_iload d_TrustDeskModel_counts_70 rfl ?_
                refine mv_bipush (v := 12) d_TrustDeskModel_counts_72 (by decide) ?_
                have := mz_hi i5_150
                refine mv_icmp_geZ (tgt := 97) (a := i5_150.toInt) (b := 12) d_TrustDeskModel_counts_74 (by decide) rfl (by decide) (fun b151 => ?_) (fun b151 => ?_)
                · exact mv_vret d_TrustDeskModel_counts_97 rfl ⟨_, I_150, rfl, kKR_150⟩
                · refine mv_aload_n d_TrustDeskModel_counts_77 rfl rfl ?_
                  obtain ⟨a153, q152, t_a153⟩ := tm_atR I_150 h_q0_150 (k := 65) rfl
                  refine tr_getK q152 d_TrustDeskModel_counts_78 f_TrustDeskModel_155_13 ?_
                  refine mv_iload d_TrustDeskModel_counts_81 rfl ?_
                  refine mv_aload_n d_TrustDeskModel_counts_83 rfl rfl ?_
                  obtain ⟨a155, q154, t_a155⟩ := tm_atR I_150 h_q0_150 (k := 64) rfl
                  refine tr_getK q154 d_TrustDeskModel_counts_84 f_TrustDeskModel_152_13 ?_
                  refine mv_iload d_TrustDeskModel_counts_87 rfl ?_
                  refine tr_ialdR (o := o0) (k := 64) I_150 q154 t_a155 (by decide) d_TrustDeskModel_counts_89 (vp_in_iff.mpr (by have := kKR_150.1 32 _ _ rfl; omega)) (fun v156 e157 => ?_)
                  refine tr_iastR (k := 65) I_150 kKR_150 (I_150.up h_o0) q152 t_a153 (by decide) (by decide) (fun lo hi h => by cases h) (Or.inl (by decide)) d_TrustDeskModel_counts_90 (vp_in_iff.mpr (by have := kKR_150.1 32 _ _ rfl; omega)) (fun M158 I159 K160 R161 E162 A163 V164 => ?_)
                  have z165 := (V164 32)
                  have K166 : ∀ i : Nat, i < 880 → 0 ≤ ra M158 o0 8 i := (by have e9 := ((sA_a A163 (by decide +kernel)) : sA [8] _ _ _) 8 rfl; rw [e9]; exact kK8_150)
                  refine mv_iinc (v := (i5_150 + 1)) (lv' := [(5, .int (i5_150 + 1)), (3, .long v79), (0, .ref o0), (1, .int x1), (2, .int x2)]) d_TrustDeskModel_counts_91 rfl rfl (by decide) rfl ?_
                  refine mv_goto (tgt := 70) d_TrustDeskModel_counts_94 (by decide) ?_
                  have b167 : (i5_150 + 1 : Int32).toInt = (i5_150.toInt + 1) := mz_add2 rfl (by decide) (by have := R161.1 32 _ _ rfl; omega) (by have := R161.1 32 _ _ rfl; omega)
                  have b168 : (i5_150 + 1).toInt = i5_150.toInt + 1 := mz_addn 1 1 (by decide) (by have := mz_lo i5_150; omega) (by have := mz_hi i5_150; omega)
                  exact (ih150 (i5_150 + 1) T_150 M158 n_150 I159 h_q0_150 (by have := R161.1 32 _ _ rfl; first | omega | decide | exact fun h9 => absurd (by decide) h9) R161 K166 (by have := R161.1 32 _ _ rfl; omega))
            have : (0 : Int32).toInt = 0 := by decide
            exact mv_less (Nat.zero_le _) (Nat.zero_le _) (L70_150 4294967296 0 T75 M141 n74 I142 t81 (by have := R145.1 32 _ _ rfl; first | omega | decide | exact fun h9 => absurd (by decide) h9) R145 K149 (by show (2147483647 - (0 : Int) : Int) < _; decide))
          · refine mv_iload_n d_TrustDeskModel_counts_48 rfl rfl ?_
            refine mv_aload_n d_TrustDeskModel_counts_49 rfl rfl ?_
            refine tr_getK (k := 69) q88 d_TrustDeskModel_counts_50 f_TrustDeskModel_571_13 ?_
            have := mz_hi x2
            have := mz_hi v89
            refine mv_icmp_ltZ (tgt := 57) (a := x2.toInt) (b := v89.toInt) d_TrustDeskModel_counts_53 (by decide) rfl rfl (fun b169 => ?_) (fun b169 => ?_)
            · refine mv_aload_n d_TrustDeskModel_counts_57 rfl rfl ?_
              refine mv_lload_n d_TrustDeskModel_counts_58 rfl rfl ?_
              refine tr_putR (k := 68) I77 R80 t81 rfl ⟨_, rfl⟩ (fun _ h => by cases h) rfl (fun lo hi h => by cases h) (Or.inl (by decide)) d_TrustDeskModel_counts_59 p_TrustDeskModel_574_13 rfl rfl (fun M170 I171 q172 K173 R174 A175 V176 => ?_)
              have z177 := (V176 32 (by decide)).trans z82
              have K178 : ∀ i : Nat, i < 880 → 0 ≤ ra M170 o0 8 i := (by have e9 := ((sA_f A175 (by decide)) : sA [8] _ _ _) 8 rfl; rw [e9]; exact K83)
              clear z82
              refine mv_aload_n d_TrustDeskModel_counts_62 rfl rfl ?_
              refine mv_iload_n d_TrustDeskModel_counts_63 rfl rfl ?_
              refine tr_putR (k := 69) I171 R174 t81 rfl ⟨_, rfl⟩ (fun _ h => by cases h) rfl (fun lo hi h => by cases h) (Or.inl (by decide)) d_TrustDeskModel_counts_64 p_TrustDeskModel_571_13 rfl rfl (fun M179 I180 q181 K182 R183 A184 V185 => ?_)
              have z186 := (V185 32 (by decide)).trans z177
              have K187 : ∀ i : Nat, i < 880 → 0 ≤ ra M179 o0 8 i := (by have e9 := ((sA_f A184 (by decide)) : sA [8] _ _ _) 8 rfl; rw [e9]; exact K178)
              clear z177
              refine mv_iconst (v := 0) d_TrustDeskModel_counts_67 (by decide) ?_
              refine mv_istore (lv' := [(5, .int 0), (3, .long v79), (0, .ref o0), (1, .int x1), (2, .int x2)]) d_TrustDeskModel_counts_68 (by decide) rfl ?_
              have L70_188 : ∀ (k : Nat) (i5_188 : Int32) (T_188 : tm_H) (M_188 : mj_M) (n_188 : Nat), tm_I tm_FT (tm_in w_TrustDeskModel_counts_q2_x) x9 T0 M0 n0 T_188 M_188 n_188 → T_188 o0 = some (0, 13, 0) → 0 ≤ i5_188.toInt → (rI M_188 o0) → (∀ i : Nat, i < 880 → 0 ≤ ra M_188 o0 8 i) → 2147483647 - i5_188.toInt < (k : Int) → mj_V g l kY_TrustDeskModel_counts (d + 5) 70 [(5, .int i5_188), (3, .long v79), (0, .ref o0), (1, .int x1), (2, .int x2)] [] M_188 n_188 0 0 (tm_Q tm_FT (tm_in w_TrustDeskModel_counts_q2_x) x9 T0 M0 n0 (fun r _ M => r = none ∧ rI M o0)) := by
                intro k188
                induction k188 with
                | zero =>
                  intro i5_188 T_188 M_188 n_188 I_188 h_q0_188 iv0_188 kKR_188 kK8_188 hk188
                  have := mz_hi i5_188
                  have := kKR_188.1 15 _ _ rfl
                  have := kKR_188.1 16 _ _ rfl
                  have := kKR_188.1 19 _ _ rfl
                  omega
                | succ k188 ih188 =>
                  intro i5_188 T_188 M_188 n_188 I_188 h_q0_188 iv0_188 kKR_188 kK8_188 hk188
                  refine mv_iload d_TrustDeskModel_counts_70 rfl ?_
                  refine mv_bipush (v := 12) d_TrustDeskModel_counts_72 (by decide) ?_
                  have := mz_hi i5_188
                  refine mv_icmp_geZ (tgt := 97) (a := i5_188.toInt) (b := 12) d_TrustDeskModel_counts_74 (by decide) rfl (by decide) (fun b189 => ?_) (fun b189 => ?_)
                  · exact mv_vret d_TrustDeskModel_counts_97 rfl ⟨_, I_188, rfl, kKR_188⟩
                  · refine mv_aload_n d_TrustDeskModel_counts_77 rfl rfl ?_
                    obtain ⟨a191, q190, t_a191⟩ := tm_atR I_188 h_q0_188 (k := 65) rfl
                    refine tr_getK q190 d_TrustDeskModel_counts_78 f_TrustDeskModel_155_13 ?_
                    refine mv_iload d_TrustDeskModel_counts_81 rfl ?_
                    refine mv_aload_n d_TrustDeskModel_counts_83 rfl rfl ?_
                    obtain ⟨a193, q192, t_a193⟩ := tm_atR I_188 h_q0_188 (k := 64) rfl
                    refine tr_getK q192 d_TrustDeskModel_counts_84 f_TrustDeskModel_152_13 ?_
                    refine mv_iload d_TrustDeskModel_counts_87 rfl ?_
                    refine tr_ialdR (o := o0) (k := 64) I_188 q192 t_a193 (by decide) d_TrustDeskModel_counts_89 (vp_in_iff.mpr (by have := kKR_188.1 32 _ _ rfl; omega)) (fun v194 e195 => ?_)
                    refine tr_iastR (k := 65) I_188 kKR_188 (I_188.up h_o0) q190 t_a191 (by decide) (by decide) (fun lo hi h => by cases h) (Or.inl (by decide)) d_TrustDeskModel_counts_90 (vp_in_iff.mpr (by have := kKR_188.1 32 _ _ rfl; omega)) (fun M196 I197 K198 R199 E200 A201 V202 => ?_)
                    have z203 := (V202 32)
                    have K204 : ∀ i : Nat, i < 880 → 0 ≤ ra M196 o0 8 i := (by have e9 := ((sA_a A201 (by decide +kernel)) : sA [8] _ _ _) 8 rfl; rw [e9]; exact kK8_188)
                    refine mv_iinc (v := (i5_188 + 1)) (lv' := [(5, .int (i5_188 + 1)), (3, .long v79), (0, .ref o0), (1, .int x1), (2, .int x2)]) d_TrustDeskModel_counts_91 rfl rfl (by decide) rfl ?_
                    refine mv_goto (tgt := 70) d_TrustDeskModel_counts_94 (by decide) ?_
                    have b205 : (i5_188 + 1 : Int32).toInt = (i5_188.toInt + 1) := mz_add2 rfl (by decide) (by have := R199.1 32 _ _ rfl; omega) (by have := R199.1 32 _ _ rfl; omega)
                    have b206 : (i5_188 + 1).toInt = i5_188.toInt + 1 := mz_addn 1 1 (by decide) (by have := mz_lo i5_188; omega) (by have := mz_hi i5_188; omega)
                    exact (ih188 (i5_188 + 1) T_188 M196 n_188 I197 h_q0_188 (by have := R199.1 32 _ _ rfl; first | omega | decide | exact fun h9 => absurd (by decide) h9) R199 K204 (by have := R199.1 32 _ _ rfl; omega))
              have : (0 : Int32).toInt = 0 := by decide
              exact mv_less (Nat.zero_le _) (Nat.zero_le _) (L70_188 4294967296 0 T75 M179 n74 I180 t81 (by have := R183.1 32 _ _ rfl; first | omega | decide | exact fun h9 => absurd (by decide) h9) R183 K187 (by show (2147483647 - (0 : Int) : Int) < _; decide))
            · exact mv_vret d_TrustDeskModel_counts_56 rfl ⟨_, I77, rfl, R80⟩
def w_TrustDeskModel_counts_q3_x : List Nat := [1368, 1369, 20064, 20065]
set_option maxHeartbeats 100000000 in theorem tc_TrustDeskModel_counts_q3_x {g : mj_G} {l : Launch} {d : Nat} {T0 : tm_H} {M0 : mj_M} {n0 x9 : Nat} {o0 : Nat} {x1 : Int32} {x2 : Int32} (h_o0 : T0 o0 = some (0, 13, 0)) (yR : rI M0 o0) (y8 : ∀ i : Nat, i < 880 → 0 ≤ ra M0 o0 8 i) (yl : 9 ≤ x1.toInt ∧ x1.toInt ≤ rv M0 o0 32 ∧ 0 ≤ x2.toInt ∧ x2.toInt ≤ x1.toInt) (I0 : tm_I tm_FT (tm_in w_TrustDeskModel_counts_q3_x) x9 T0 M0 n0 T0 M0 n0) : mj_Met g l kY_TrustDeskModel_counts (d + 6) [.ref o0, .int x1, .int x2] M0 n0 0 0 (tm_Q tm_FT (tm_in w_TrustDeskModel_counts_q3_x) x9 T0 M0 n0 (fun r _ M => r = none ∧ rI M o0)) := by
  refine mj_enter (by decide) (Nat.le_of_ble_eq_true rfl) ?_
  have K1 : ∀ i : Nat, i < 880 → 0 ≤ ra M0 o0 8 i := y8
  refine mv_iload_n d_TrustDeskModel_counts_0 rfl rfl ?_
  refine mv_aload_n d_TrustDeskModel_counts_1 rfl rfl ?_
  obtain ⟨v3, q2⟩ := tm_atI I0 h_o0 (k := 32) rfl
  refine tr_getK q2 d_TrustDeskModel_counts_2 f_TrustDeskModel_415_13 ?_
  have := yR.f (k := 32) q2 rfl
  have := tm_rv q2
  have := mz_hi x1
  have := mz_hi v3
  refine mv_icmp_neZ (tgt := 98) (a := x1.toInt) (b := v3.toInt) d_TrustDeskModel_counts_5 (by decide) rfl rfl (fun b4 => ?_) (fun b4 => ?_)
  · refine mv_aload_n d_TrustDeskModel_counts_98 rfl rfl ?_
    obtain ⟨v6, q5⟩ := tm_atI I0 h_o0 (k := 67) rfl
    refine tr_getK q5 d_TrustDeskModel_counts_99 f_TrustDeskModel_560_13 ?_
    refine mv_iload_n d_TrustDeskModel_counts_102 rfl rfl ?_
    refine mv_ishr d_TrustDeskModel_counts_103 ?_
    refine mv_iconst (v := 1) d_TrustDeskModel_counts_104 (by decide) ?_
    refine mv_iand d_TrustDeskModel_counts_105 ?_
    have := mz_hi ((v6 >>> (x1 &&& 31)) &&& 1)
    refine mv_if_neZ (tgt := 118) (a := ((v6 >>> (x1 &&& 31)) &&& 1).toInt) d_TrustDeskModel_counts_106 (by decide) rfl (fun b7 => ?_) (fun b7 => ?_)
    · refine mv_iconst (v := 0) d_TrustDeskModel_counts_118 (by decide) ?_
      refine mv_istore_n (lv' := [(3, .int 0), (0, .ref o0), (1, .int x1), (2, .int x2)]) d_TrustDeskModel_counts_119 rfl (by decide) rfl ?_
      have L120_8 : ∀ (k : Nat) (i3_8 : Int32) (T_8 : tm_H) (M_8 : mj_M) (n_8 : Nat), tm_I tm_FT (tm_in w_TrustDeskModel_counts_q3_x) x9 T0 M0 n0 T_8 M_8 n_8 → T_8 o0 = some (0, 13, 0) → 0 ≤ i3_8.toInt → rv M_8 o0 32 = rv M0 o0 32 → (rI M_8 o0) → (∀ i : Nat, i < 880 → 0 ≤ ra M_8 o0 8 i) → 2147483647 - i3_8.toInt < (k : Int) → mj_V g l kY_TrustDeskModel_counts (d + 6) 120 [(3, .int i3_8), (0, .ref o0), (1, .int x1), (2, .int x2)] [] M_8 n_8 0 0 (tm_Q tm_FT (tm_in w_TrustDeskModel_counts_q3_x) x9 T0 M0 n0 (fun r _ M => r = none ∧ rI M o0)) := by
        intro k8
        induction k8 with
        | zero =>
          intro i3_8 T_8 M_8 n_8 I_8 h_q0_8 iv0_8 iv1_8 kKR_8 kK8_8 hk8
          have := mz_hi i3_8
          have := kKR_8.1 15 _ _ rfl
          have := kKR_8.1 16 _ _ rfl
          have := kKR_8.1 19 _ _ rfl
          omega
        | succ k8 ih8 =>
          intro i3_8 T_8 M_8 n_8 I_8 h_q0_8 iv0_8 iv1_8 kKR_8 kK8_8 hk8
          refine mv_iload_n d_TrustDeskModel_counts_120 rfl rfl ?_
          refine mv_iload_n d_TrustDeskModel_counts_121 rfl rfl ?_
          have := mz_hi i3_8
          have := mz_hi x2
          refine mv_icmp_gtZ (tgt := 163) (a := i3_8.toInt) (b := x2.toInt) d_TrustDeskModel_counts_122 (by decide) rfl rfl (fun b9 => ?_) (fun b9 => ?_)
          · exact mv_vret d_TrustDeskModel_counts_163 rfl ⟨_, I_8, rfl, kKR_8⟩
          · refine mv_iload_n d_TrustDeskModel_counts_125 rfl rfl ?_
            refine mv_bipush (v := 8) d_TrustDeskModel_counts_126 (by decide) ?_
            have := mz_hi i3_8
            refine mv_icmp_geZ (tgt := 163) (a := i3_8.toInt) (b := 8) d_TrustDeskModel_counts_128 (by decide) rfl (by decide) (fun b10 => ?_) (fun b10 => ?_)
            · exact mv_vret d_TrustDeskModel_counts_163 rfl ⟨_, I_8, rfl, kKR_8⟩
            · refine mv_aload_n d_TrustDeskModel_counts_131 rfl rfl ?_
              obtain ⟨a12, q11, t_a12⟩ := tm_atR I_8 h_q0_8 (k := 64) rfl
              refine tr_getK q11 d_TrustDeskModel_counts_132 f_TrustDeskModel_152_13 ?_
              refine mv_iload_n d_TrustDeskModel_counts_135 rfl rfl ?_
              refine mv_iload_n d_TrustDeskModel_counts_136 rfl rfl ?_
              refine tr_iastR (k := 64) I_8 kKR_8 (I_8.up h_o0) q11 t_a12 (by decide) (by decide) (fun lo hi h => by cases h) (Or.inl (by decide)) d_TrustDeskModel_counts_137 (vp_in_iff.mpr (by have := kKR_8.1 32 _ _ rfl; omega)) (fun M13 I14 K15 R16 E17 A18 V19 => ?_)
              have z20 := (V19 32)
              have K21 : ∀ i : Nat, i < 880 → 0 ≤ ra M13 o0 8 i := (by have e9 := ((sA_a A18 (by decide +kernel)) : sA [8] _ _ _) 8 rfl; rw [e9]; exact kK8_8)
              refine mv_aload_n d_TrustDeskModel_counts_138 rfl rfl ?_
              refine mv_iload_n d_TrustDeskModel_counts_139 rfl rfl ?_
              refine mv_iconst (v := 1) d_TrustDeskModel_counts_140 (by decide) ?_
              refine mv_iadd d_TrustDeskModel_counts_141 ?_
              refine mv_iload_n d_TrustDeskModel_counts_142 rfl rfl ?_
              refine mv_iload_n d_TrustDeskModel_counts_143 rfl rfl ?_
              have := mz_hi i3_8
              have := mz_hi x2
              refine mv_icmp_neZ (tgt := 153) (a := i3_8.toInt) (b := x2.toInt) d_TrustDeskModel_counts_144 (by decide) rfl rfl (fun b22 => ?_) (fun b22 => ?_)
              · refine mv_iload_n d_TrustDeskModel_counts_153 rfl rfl ?_
                obtain ⟨_, b29, -⟩ := I14.1 _ _ h_q0_8
                have b30 : (x1 + 1 : Int32).toInt = (x1.toInt + 1) := mz_add2 rfl (by decide) (by have := R16.1 32 _ _ rfl; omega) (by have := R16.1 32 _ _ rfl; omega)
                refine mv_callV (kc' := 0) (ks' := 0) (As := [.int (x1 + 1), .int x2]) (st9 := [.int x2, .int (x1 + 1), .ref o0]) d_TrustDeskModel_counts_154 lV_TrustDeskModel_578 b29 rfl (tc_TrustDeskModel_counts_q2_x (d := d) (x9 := x9) (o0 := o0) (x1 := (x1 + 1)) (x2 := x2) h_q0_8 R16 K21 (by have := R16.1 32 _ _ rfl; omega) I14.start) rfl (Nat.le_of_ble_eq_true rfl) (Nat.le_of_ble_eq_true rfl) (Nat.le_of_ble_eq_true rfl) (hst := rfl) (fun b23r M24 n25 b23 => ?_)
                obtain ⟨T26, J27, rfl, R31⟩ := b23
                have I28 := I14.call J27 (tm_sub (by decide)) (Or.inl rfl)
                have t32 := J27.up h_q0_8
                have z33 := (rv_c I14 J27 (I14.up h_o0) (k := 32) rfl).trans z20
                have K34 : ∀ i : Nat, i < 880 → 0 ≤ ra M24 o0 8 i := (by have e9 := ((sA_c I14 J27 (I14.up h_o0) (by decide +kernel)) : sA [8] _ _ _) 8 rfl; rw [e9]; exact K21)
                clear z20
                have q35 := J27.keep h_q0_8 (by decide) (K15 _ 13 64 _ q11)
                have t36 := J27.up t_a12
                refine mv_iinc (v := (i3_8 + 1)) (lv' := [(3, .int (i3_8 + 1)), (0, .ref o0), (1, .int x1), (2, .int x2)]) d_TrustDeskModel_counts_157 rfl rfl (by decide) rfl ?_
                refine mv_goto (tgt := 120) d_TrustDeskModel_counts_160 (by decide) ?_
                have b37 : (i3_8 + 1 : Int32).toInt = (i3_8.toInt + 1) := mz_add2 rfl (by decide) (by have := R31.1 32 _ _ rfl; omega) (by have := R31.1 32 _ _ rfl; omega)
                have b38 : (i3_8 + 1).toInt = i3_8.toInt + 1 := mz_addn 1 1 (by decide) (by have := mz_lo i3_8; omega) (by have := mz_hi i3_8; omega)
                exact (ih8 (i3_8 + 1) T26 M24 n25 I28 t32 (by have := R31.1 32 _ _ rfl; first | omega | decide | exact fun h9 => absurd (by decide) h9) (by have := R31.1 32 _ _ rfl; first | omega | decide | exact fun h9 => absurd (by decide) h9) R31 K34 (by have := R31.1 32 _ _ rfl; omega))
              · refine mv_iload_n d_TrustDeskModel_counts_147 rfl rfl ?_
                refine mv_iconst (v := 1) d_TrustDeskModel_counts_148 (by decide) ?_
                refine mv_iadd d_TrustDeskModel_counts_149 ?_
                refine mv_goto (tgt := 154) d_TrustDeskModel_counts_150 (by decide) ?_
                obtain ⟨_, b45, -⟩ := I14.1 _ _ h_q0_8
                have b46 : (x1 + 1 : Int32).toInt = (x1.toInt + 1) := mz_add2 rfl (by decide) (by have := R16.1 32 _ _ rfl; omega) (by have := R16.1 32 _ _ rfl; omega)
                have b47 : (x2 + 1 : Int32).toInt = (x2.toInt + 1) := mz_add2 rfl (by decide) (by have := R16.1 32 _ _ rfl; omega) (by have := R16.1 32 _ _ rfl; omega)
                refine mv_callV (kc' := 0) (ks' := 0) (As := [.int (x1 + 1), .int (x2 + 1)]) (st9 := [.int (x2 + 1), .int (x1 + 1), .ref o0]) d_TrustDeskModel_counts_154 lV_TrustDeskModel_578 b45 rfl (tc_TrustDeskModel_counts_q2_x (d := d) (x9 := x9) (o0 := o0) (x1 := (x1 + 1)) (x2 := (x2 + 1)) h_q0_8 R16 K21 (by have := R16.1 32 _ _ rfl; omega) I14.start) rfl (Nat.le_of_ble_eq_true rfl) (Nat.le_of_ble_eq_true rfl) (Nat.le_of_ble_eq_true rfl) (hst := rfl) (fun b39r M40 n41 b39 => ?_)
                obtain ⟨T42, J43, rfl, R48⟩ := b39
                have I44 := I14.call J43 (tm_sub (by decide)) (Or.inl rfl)
                have t49 := J43.up h_q0_8
                have z50 := (rv_c I14 J43 (I14.up h_o0) (k := 32) rfl).trans z20
                have K51 : ∀ i : Nat, i < 880 → 0 ≤ ra M40 o0 8 i := (by have e9 := ((sA_c I14 J43 (I14.up h_o0) (by decide +kernel)) : sA [8] _ _ _) 8 rfl; rw [e9]; exact K21)
                clear z20
                have q52 := J43.keep h_q0_8 (by decide) (K15 _ 13 64 _ q11)
                have t53 := J43.up t_a12
                refine mv_iinc (v := (i3_8 + 1)) (lv' := [(3, .int (i3_8 + 1)), (0, .ref o0), (1, .int x1), (2, .int x2)]) d_TrustDeskModel_counts_157 rfl rfl (by decide) rfl ?_
                refine mv_goto (tgt := 120) d_TrustDeskModel_counts_160 (by decide) ?_
                have b54 : (i3_8 + 1 : Int32).toInt = (i3_8.toInt + 1) := mz_add2 rfl (by decide) (by have := R48.1 32 _ _ rfl; omega) (by have := R48.1 32 _ _ rfl; omega)
                have b55 : (i3_8 + 1).toInt = i3_8.toInt + 1 := mz_addn 1 1 (by decide) (by have := mz_lo i3_8; omega) (by have := mz_hi i3_8; omega)
                exact (ih8 (i3_8 + 1) T42 M40 n41 I44 t49 (by have := R48.1 32 _ _ rfl; first | omega | decide | exact fun h9 => absurd (by decide) h9) (by have := R48.1 32 _ _ rfl; first | omega | decide | exact fun h9 => absurd (by decide) h9) R48 K51 (by have := R48.1 32 _ _ rfl; omega))
      have : (0 : Int32).toInt = 0 := by decide
      exact mv_less (Nat.zero_le _) (Nat.zero_le _) (L120_8 4294967296 0 T0 M0 n0 I0 h_o0 (by have := yR.1 32 _ _ rfl; first | omega | decide | exact fun h9 => absurd (by decide) h9) (by have := yR.1 32 _ _ rfl; first | omega | decide | exact fun h9 => absurd (by decide) h9) yR K1 (by show (2147483647 - (0 : Int) : Int) < _; decide))
    · refine mv_aload_n d_TrustDeskModel_counts_109 rfl rfl ?_
      refine mv_iload_n d_TrustDeskModel_counts_110 rfl rfl ?_
      refine mv_iconst (v := 1) d_TrustDeskModel_counts_111 (by decide) ?_
      refine mv_iadd d_TrustDeskModel_counts_112 ?_
      refine mv_iload_n d_TrustDeskModel_counts_113 rfl rfl ?_
      obtain ⟨_, b62, -⟩ := I0.1 _ _ h_o0
      have b63 : (x1 + 1 : Int32).toInt = (x1.toInt + 1) := mz_add2 rfl (by decide) (by have := yR.1 32 _ _ rfl; omega) (by have := yR.1 32 _ _ rfl; omega)
      refine mv_callV (kc' := 0) (ks' := 0) (As := [.int (x1 + 1), .int x2]) (st9 := [.int x2, .int (x1 + 1), .ref o0]) d_TrustDeskModel_counts_114 lV_TrustDeskModel_578 b62 rfl (tc_TrustDeskModel_counts_q2_x (d := d) (x9 := x9) (o0 := o0) (x1 := (x1 + 1)) (x2 := x2) h_o0 yR K1 (by have := yR.1 32 _ _ rfl; omega) I0.start) rfl (Nat.le_of_ble_eq_true rfl) (Nat.le_of_ble_eq_true rfl) (Nat.le_of_ble_eq_true rfl) (hst := rfl) (fun b56r M57 n58 b56 => ?_)
      obtain ⟨T59, J60, rfl, R64⟩ := b56
      have I61 := I0.call J60 (tm_sub (by decide)) (Or.inl rfl)
      have t65 := J60.up h_o0
      have z66 := (rv_c I0 J60 (I0.up h_o0) (k := 32) rfl)
      have K67 : ∀ i : Nat, i < 880 → 0 ≤ ra M57 o0 8 i := (by have e9 := ((sA_c I0 J60 (I0.up h_o0) (by decide +kernel)) : sA [8] _ _ _) 8 rfl; rw [e9]; exact K1)
      have q68 := J60.keep h_o0 (by decide) q2
      have q69 := J60.keep h_o0 (by decide) q5
      exact mv_vret d_TrustDeskModel_counts_117 rfl ⟨_, I61, rfl, R64⟩
  · refine mv_aload_n d_TrustDeskModel_counts_8 rfl rfl ?_
    refine mv_aload_n d_TrustDeskModel_counts_9 rfl rfl ?_
    obtain ⟨a71, q70, t_a71⟩ := tm_atR I0 h_o0 (k := 64) rfl
    refine tr_getK q70 d_TrustDeskModel_counts_10 f_TrustDeskModel_152_13 ?_
    obtain ⟨_, b78, -⟩ := I0.1 _ _ h_o0
    refine mv_callV (kc' := 0) (ks' := 0) (As := [.ref a71]) (st9 := [.ref a71, .ref o0]) d_TrustDeskModel_counts_13 lV_TrustDeskModel_567 b78 rfl (tc_TrustDeskModel_idle_q64_x (d := (d + 3)) (x9 := x9) (o0 := o0) (o1 := a71) h_o0 t_a71 yR K1 I0.start) rfl (Nat.le_of_ble_eq_true rfl) (Nat.le_of_ble_eq_true rfl) (Nat.le_of_ble_eq_true rfl) (hst := rfl) (fun b72r M73 n74 b72 => ?_)
    obtain ⟨T75, J76, v79, rfl, R80⟩ := b72
    have I77 := I0.call J76 (tm_sub (by decide)) (Or.inl rfl)
    have t81 := J76.up h_o0
    have z82 := (rv_c I0 J76 (I0.up h_o0) (k := 32) rfl)
    have K83 : ∀ i : Nat, i < 880 → 0 ≤ ra M73 o0 8 i := (by have e9 := ((sA_c I0 J76 (I0.up h_o0) (by decide +kernel)) : sA [8] _ _ _) 8 rfl; rw [e9]; exact K1)
    have q84 := J76.keep h_o0 (by decide) q2
    have q85 := J76.keep h_o0 (by decide) q70
    have t86 := J76.up t_a71
    refine mv_lstore_n (lv' := [(3, .long v79), (0, .ref o0), (1, .int x1), (2, .int x2)]) d_TrustDeskModel_counts_16 rfl (by decide) rfl ?_
    refine mv_lload_n d_TrustDeskModel_counts_17 rfl rfl ?_
    refine mv_lconst (v := 0) d_TrustDeskModel_counts_18 (by decide) ?_
    refine mv_lltZ (tgt := 56) (a := v79.toInt) (b := 0) d_TrustDeskModel_counts_19 d_TrustDeskModel_counts_20 (by decide) rfl (by decide) (fun b87 => ?_) (fun b87 => ?_)
    · exact mv_vret d_TrustDeskModel_counts_56 rfl ⟨_, I77, rfl, R80⟩
    · refine mv_aload_n d_TrustDeskModel_counts_23 rfl rfl ?_
      obtain ⟨v89, q88⟩ := tm_atI I77 t81 (k := 69) rfl
      refine tr_getK q88 d_TrustDeskModel_counts_24 f_TrustDeskModel_571_13 ?_
      have := mz_hi v89
      refine mv_if_eqZ (tgt := 57) (a := v89.toInt) d_TrustDeskModel_counts_27 (by decide) rfl (fun b90 => ?_) (fun b90 => ?_)
      · refine mv_aload_n d_TrustDeskModel_counts_57 rfl rfl ?_
        refine mv_lload_n d_TrustDeskModel_counts_58 rfl rfl ?_
        refine tr_putR (k := 68) I77 R80 t81 rfl ⟨_, rfl⟩ (fun _ h => by cases h) rfl (fun lo hi h => by cases h) (Or.inl (by decide)) d_TrustDeskModel_counts_59 p_TrustDeskModel_574_13 rfl rfl (fun M91 I92 q93 K94 R95 A96 V97 => ?_)
        have z98 := (V97 32 (by decide)).trans z82
        have K99 : ∀ i : Nat, i < 880 → 0 ≤ ra M91 o0 8 i := (by have e9 := ((sA_f A96 (by decide)) : sA [8] _ _ _) 8 rfl; rw [e9]; exact K83)
        clear z82
        refine mv_aload_n d_TrustDeskModel_counts_62 rfl rfl ?_
        refine mv_iload_n d_TrustDeskModel_counts_63 rfl rfl ?_
        refine tr_putR (k := 69) I92 R95 t81 rfl ⟨_, rfl⟩ (fun _ h => by cases h) rfl (fun lo hi h => by cases h) (Or.inl (by decide)) d_TrustDeskModel_counts_64 p_TrustDeskModel_571_13 rfl rfl (fun M100 I101 q102 K103 R104 A105 V106 => ?_)
        have z107 := (V106 32 (by decide)).trans z98
        have K108 : ∀ i : Nat, i < 880 → 0 ≤ ra M100 o0 8 i := (by have e9 := ((sA_f A105 (by decide)) : sA [8] _ _ _) 8 rfl; rw [e9]; exact K99)
        clear z98
        refine mv_iconst (v := 0) d_TrustDeskModel_counts_67 (by decide) ?_
        refine mv_istore (lv' := [(5, .int 0), (3, .long v79), (0, .ref o0), (1, .int x1), (2, .int x2)]) d_TrustDeskModel_counts_68 (by decide) rfl ?_
        have L70_109 : ∀ (k : Nat) (i5_109 : Int32) (T_109 : tm_H) (M_109 : mj_M) (n_109 : Nat), tm_I tm_FT (tm_in w_TrustDeskModel_counts_q3_x) x9 T0 M0 n0 T_109 M_109 n_109 → T_109 o0 = some (0, 13, 0) → 0 ≤ i5_109.toInt → (rI M_109 o0) → (∀ i : Nat, i < 880 → 0 ≤ ra M_109 o0 8 i) → 2147483647 - i5_109.toInt < (k : Int) → mj_V g l kY_TrustDeskModel_counts (d + 6) 70 [(5, .int i5_109), (3, .long v79), (0, .ref o0), (1, .int x1), (2, .int x2)] [] M_109 n_109 0 0 (tm_Q tm_FT (tm_in w_TrustDeskModel_counts_q3_x) x9 T0 M0 n0 (fun r _ M => r = none ∧ rI M o0)) := by
          intro k109
          induction k109 with
          | zero =>
            intro i5_109 T_109 M_109 n_109 I_109 h_q0_109 iv0_109 kKR_109 kK8_109 hk109
            have := mz_hi i5_109
            have := kKR_109.1 15 _ _ rfl
            have := kKR_109.1 16 _ _ rfl
            have := kKR_109.1 19 _ _ rfl
            omega
          | succ k109 ih109 =>
            intro i5_109 T_109 M_109 n_109 I_109 h_q0_109 iv0_109 kKR_109 kK8_109 hk109
            refine mv_iload d_TrustDeskModel_counts_70 rfl ?_
            refine mv_bipush (v := 12) d_TrustDeskModel_counts_72 (by decide) ?_
            have := mz_hi i5_109
            refine mv_icmp_geZ (tgt := 97) (a := i5_109.toInt) (b := 12) d_TrustDeskModel_counts_74 (by decide) rfl (by decide) (fun b110 => ?_) (fun b110 => ?_)
            · exact mv_vret d_TrustDeskModel_counts_97 rfl ⟨_, I_109, rfl, kKR_109⟩
            · refine mv_aload_n d_TrustDeskModel_counts_77 rfl rfl ?_
              obtain ⟨a112, q111, t_a112⟩ := tm_atR I_109 h_q0_109 (k := 65) rfl
              refine tr_getK q111 d_TrustDeskModel_counts_78 f_TrustDeskModel_155_13 ?_
              refine mv_iload d_TrustDeskModel_counts_81 rfl ?_
              refine mv_aload_n d_TrustDeskModel_counts_83 rfl rfl ?_
              obtain ⟨a114, q113, t_a114⟩ := tm_atR I_109 h_q0_109 (k := 64) rfl
              refine tr_getK q113 d_TrustDeskModel_counts_84 f_TrustDeskModel_152_13 ?_
              refine mv_iload d_TrustDeskModel_counts_87 rfl ?_
              refine tr_ialdR (o := o0) (k := 64) I_109 q113 t_a114 (by decide) d_TrustDeskModel_counts_89 (vp_in_iff.mpr (by have := kKR_109.1 32 _ _ rfl; omega)) (fun v115 e116 => ?_)
              refine tr_iastR (k := 65) I_109 kKR_109 (I_109.up h_o0) q111 t_a112 (by decide) (by decide) (fun lo hi h => by cases h) (Or.inl (by decide)) d_TrustDeskModel_counts_90 (vp_in_iff.mpr (by have := kKR_109.1 32 _ _ rfl; omega)) (fun M117 I118 K119 R120 E121 A122 V123 => ?_)
              have z124 := (V123 32)
              have K125 : ∀ i : Nat, i < 880 → 0 ≤ ra M117 o0 8 i := (by have e9 := ((sA_a A122 (by decide +kernel)) : sA [8] _ _ _) 8 rfl; rw [e9]; exact kK8_109)
              refine mv_iinc (v := (i5_109 + 1)) (lv' := [(5, .int (i5_109 + 1)), (3, .long v79), (0, .ref o0), (1, .int x1), (2, .int x2)]) d_TrustDeskModel_counts_91 rfl rfl (by decide) rfl ?_
              refine mv_goto (tgt := 70) d_TrustDeskModel_counts_94 (by decide) ?_
              have b126 : (i5_109 + 1 : Int32).toInt = (i5_109.toInt + 1) := mz_add2 rfl (by decide) (by have := R120.1 32 _ _ rfl; omega) (by have := R120.1 32 _ _ rfl; omega)
              have b127 : (i5_109 + 1).toInt = i5_109.toInt + 1 := mz_addn 1 1 (by decide) (by have := mz_lo i5_109; omega) (by have := mz_hi i5_109; omega)
              exact (ih109 (i5_109 + 1) T_109 M117 n_109 I118 h_q0_109 (by have := R120.1 32 _ _ rfl; first | omega | decide | exact fun h9 => absurd (by decide) h9) R120 K125 (by have := R120.1 32 _ _ rfl; omega))
        have : (0 : Int32).toInt = 0 := by decide
        exact mv_less (Nat.zero_le _) (Nat.zero_le _) (L70_109 4294967296 0 T75 M100 n74 I101 t81 (by have := R104.1 32 _ _ rfl; first | omega | decide | exact fun h9 => absurd (by decide) h9) R104 K108 (by show (2147483647 - (0 : Int) : Int) < _; decide))
      · refine mv_lload_n d_TrustDeskModel_counts_30 rfl rfl ?_
        refine mv_aload_n d_TrustDeskModel_counts_31 rfl rfl ?_
        obtain ⟨v129, q128⟩ := tm_atL I77 t81 (k := 68) rfl
        refine tr_getK q128 d_TrustDeskModel_counts_32 f_TrustDeskModel_574_13 ?_
        refine mv_lgtZ (tgt := 56) (a := v79.toInt) (b := v129.toInt) d_TrustDeskModel_counts_35 d_TrustDeskModel_counts_36 (by decide) rfl rfl (fun b130 => ?_) (fun b130 => ?_)
        · exact mv_vret d_TrustDeskModel_counts_56 rfl ⟨_, I77, rfl, R80⟩
        · refine mv_lload_n d_TrustDeskModel_counts_39 rfl rfl ?_
          refine mv_aload_n d_TrustDeskModel_counts_40 rfl rfl ?_
          refine tr_getK (k := 68) q128 d_TrustDeskModel_counts_41 f_TrustDeskModel_574_13 ?_
          refine mv_lneZ (tgt := 57) (a := v79.toInt) (b := v129.toInt) d_TrustDeskModel_counts_44 d_TrustDeskModel_counts_45 (by decide) rfl rfl (fun b131 => ?_) (fun b131 => ?_)
          · refine mv_aload_n d_TrustDeskModel_counts_57 rfl rfl ?_
            refine mv_lload_n d_TrustDeskModel_counts_58 rfl rfl ?_
            refine tr_putR (k := 68) I77 R80 t81 rfl ⟨_, rfl⟩ (fun _ h => by cases h) rfl (fun lo hi h => by cases h) (Or.inl (by decide)) d_TrustDeskModel_counts_59 p_TrustDeskModel_574_13 rfl rfl (fun M132 I133 q134 K135 R136 A137 V138 => ?_)
            have z139 := (V138 32 (by decide)).trans z82
            have K140 : ∀ i : Nat, i < 880 → 0 ≤ ra M132 o0 8 i := (by have e9 := ((sA_f A137 (by decide)) : sA [8] _ _ _) 8 rfl; rw [e9]; exact K83)
            clear z82
            refine mv_aload_n d_TrustDeskModel_counts_62 rfl rfl ?_
            refine mv_iload_n d_TrustDeskModel_counts_63 rfl rfl ?_
            refine tr_putR (k := 69) I133 R136 t81 rfl ⟨_, rfl⟩ (fun _ h => by cases h) rfl (fun lo hi h => by cases h) (Or.inl (by decide)) d_TrustDeskModel_counts_64 p_TrustDeskModel_571_13 rfl rfl (fun M141 I142 q143 K144 R145 A146 V147 => ?_)
            have z148 := (V147 32 (by decide)).trans z139
            have K149 : ∀ i : Nat, i < 880 → 0 ≤ ra M141 o0 8 i := (by have e9 := ((sA_f A146 (by decide)) : sA [8] _ _ _) 8 rfl; rw [e9]; exact K140)
            clear z139
            refine mv_iconst (v := 0) d_TrustDeskModel_counts_67 (by decide) ?_
            refine mv_istore (lv' := [(5, .int 0), (3, .long v79), (0, .ref o0), (1, .int x1), (2, .int x2)]) d_TrustDeskModel_counts_68 (by decide) rfl ?_
            have L70_150 : ∀ (k : Nat) (i5_150 : Int32) (T_150 : tm_H) (M_150 : mj_M) (n_150 : Nat), tm_I tm_FT (tm_in w_TrustDeskModel_counts_q3_x) x9 T0 M0 n0 T_150 M_150 n_150 → T_150 o0 = some (0, 13, 0) → 0 ≤ i5_150.toInt → (rI M_150 o0) → (∀ i : Nat, i < 880 → 0 ≤ ra M_150 o0 8 i) → 2147483647 - i5_150.toInt < (k : Int) → mj_V g l kY_TrustDeskModel_counts (d + 6) 70 [(5, .int i5_150), (3, .long v79), (0, .ref o0), (1, .int x1), (2, .int x2)] [] M_150 n_150 0 0 (tm_Q tm_FT (tm_in w_TrustDeskModel_counts_q3_x) x9 T0 M0 n0 (fun r _ M => r = none ∧ rI M o0)) := by
              intro k150
              induction k150 with
              | zero =>
                intro i5_150 T_150 M_150 n_150 I_150 h_q0_150 iv0_150 kKR_150 kK8_150 hk150
                have := mz_hi i5_150
                have := kKR_150.1 15 _ _ rfl
                have := kKR_150.1 16 _ _ rfl
                have := kKR_150.1 19 _ _ rfl
                omega
              | succ k150 ih150 =>
                intro i5_150 T_150 M_150 n_150 I_150 h_q0_150 iv0_150 kKR_150 kK8_150 hk150
                refine mv_iload d_TrustDeskModel_counts_70 rfl ?_
                refine mv_bipush (v := 12) d_TrustDeskModel_counts_72 (by decide) ?_
                have := mz_hi i5_150
                refine mv_icmp_geZ (tgt := 97) (a := i5_150.toInt) (b := 12) d_TrustDeskModel_counts_74 (by decide) rfl (by decide) (fun b151 => ?_) (fun b151 => ?_)
                · exact mv_vret d_TrustDeskModel_counts_97 rfl ⟨_, I_150, rfl, kKR_150⟩
                · refine mv_aload_n d_TrustDeskModel_counts_77 rfl rfl ?_
                  obtain ⟨a153, q152, t_a153⟩ := tm_atR I_150 h_q0_150 (k := 65) rfl
                  refine tr_getK q152 d_TrustDeskModel_counts_78 f_TrustDeskModel_155_13 ?_
                  refine mv_iload d_TrustDeskModel_counts_81 rfl ?_
                  refine mv_aload_n d_TrustDeskModel_counts_83 rfl rfl ?_
                  obtain ⟨a155, q154, t_a155⟩ := tm_atR I_150 h_q0_150 (k := 64) rfl
                  refine tr_getK q154 d_TrustDeskModel_counts_84 f_TrustDeskModel_152_13 ?_
                  refine mv_iload d_TrustDeskModel_counts_87 rfl ?_
                  refine tr_ialdR (o := o0) (k := 64) I_150 q154 t_a155 (by decide) d_TrustDeskModel_counts_89 (vp_in_iff.mpr (by have := kKR_150.1 32 _ _ rfl; omega)) (fun v156 e157 => ?_)
                  refine tr_iastR (k := 65) I_150 kKR_150 (I_150.up h_o0) q152 t_a153 (by decide) (by decide) (fun lo hi h => by cases h) (Or.inl (by decide)) d_TrustDeskModel_counts_90 (vp_in_iff.mpr (by have := kKR_150.1 32 _ _ rfl; omega)) (fun M158 I159 K160 R161 E162 A163 V164 => ?_)
                  have z165 := (V164 32)
                  have K166 : ∀ i : Nat, i < 880 → 0 ≤ ra M158 o0 8 i := (by have e9 := ((sA_a A163 (by decide +kernel)) : sA [8] _ _ _) 8 rfl; rw [e9]; exact kK8_150)
                  refine mv_iinc (v := (i5_150 + 1)) (lv' := [(5, .int (i5_150 + 1)), (3, .long v79), (0, .ref o0), (1, .int x1), (2, .int x2)]) d_TrustDeskModel_counts_91 rfl rfl (by decide) rfl ?_
                  refine mv_goto (tgt := 70) d_TrustDeskModel_counts_94 (by decide) ?_
                  have b167 : (i5_150 + 1 : Int32).toInt = (i5_150.toInt + 1) := mz_add2 rfl (by decide) (by have := R161.1 32 _ _ rfl; omega) (by have := R161.1 32 _ _ rfl; omega)
                  have b168 : (i5_150 + 1).toInt = i5_150.toInt + 1 := mz_addn 1 1 (by decide) (by have := mz_lo i5_150; omega) (by have := mz_hi i5_150; omega)
                  exact (ih150 (i5_150 + 1) T_150 M158 n_150 I159 h_q0_150 (by have := R161.1 32 _ _ rfl; first | omega | decide | exact fun h9 => absurd (by decide) h9) R161 K166 (by have := R161.1 32 _ _ rfl; omega))
            have : (0 : Int32).toInt = 0 := by decide
            exact mv_less (Nat.zero_le _) (Nat.zero_le _) (L70_150 4294967296 0 T75 M141 n74 I142 t81 (by have := R145.1 32 _ _ rfl; first | omega | decide | exact fun h9 => absurd (by decide) h9) R145 K149 (by show (2147483647 - (0 : Int) : Int) < _; decide))
          · refine mv_iload_n d_TrustDeskModel_counts_48 rfl rfl ?_
            refine mv_aload_n d_TrustDeskModel_counts_49 rfl rfl ?_
            refine tr_getK (k := 69) q88 d_TrustDeskModel_counts_50 f_TrustDeskModel_571_13 ?_
            have := mz_hi x2
            have := mz_hi v89
            refine mv_icmp_ltZ (tgt := 57) (a := x2.toInt) (b := v89.toInt) d_TrustDeskModel_counts_53 (by decide) rfl rfl (fun b169 => ?_) (fun b169 => ?_)
            · refine mv_aload_n d_TrustDeskModel_counts_57 rfl rfl ?_
              refine mv_lload_n d_TrustDeskModel_counts_58 rfl rfl ?_
              refine tr_putR (k := 68) I77 R80 t81 rfl ⟨_, rfl⟩ (fun _ h => by cases h) rfl (fun lo hi h => by cases h) (Or.inl (by decide)) d_TrustDeskModel_counts_59 p_TrustDeskModel_574_13 rfl rfl (fun M170 I171 q172 K173 R174 A175 V176 => ?_)
              have z177 := (V176 32 (by decide)).trans z82
              have K178 : ∀ i : Nat, i < 880 → 0 ≤ ra M170 o0 8 i := (by have e9 := ((sA_f A175 (by decide)) : sA [8] _ _ _) 8 rfl; rw [e9]; exact K83)
              clear z82
              refine mv_aload_n d_TrustDeskModel_counts_62 rfl rfl ?_
              refine mv_iload_n d_TrustDeskModel_counts_63 rfl rfl ?_
              refine tr_putR (k := 69) I171 R174 t81 rfl ⟨_, rfl⟩ (fun _ h => by cases h) rfl (fun lo hi h => by cases h) (Or.inl (by decide)) d_TrustDeskModel_counts_64 p_TrustDeskModel_571_13 rfl rfl (fun M179 I180 q181 K182 R183 A184 V185 => ?_)
              have z186 := (V185 32 (by decide)).trans z177
              have K187 : ∀ i : Nat, i < 880 → 0 ≤ ra M179 o0 8 i := (by have e9 := ((sA_f A184 (by decide)) : sA [8] _ _ _) 8 rfl; rw [e9]; exact K178)
              clear z177
              refine mv_iconst (v := 0) d_TrustDeskModel_counts_67 (by decide) ?_
              refine mv_istore (lv' := [(5, .int 0), (3, .long v79), (0, .ref o0), (1, .int x1), (2, .int x2)]) d_TrustDeskModel_counts_68 (by decide) rfl ?_
              have L70_188 : ∀ (k : Nat) (i5_188 : Int32) (T_188 : tm_H) (M_188 : mj_M) (n_188 : Nat), tm_I tm_FT (tm_in w_TrustDeskModel_counts_q3_x) x9 T0 M0 n0 T_188 M_188 n_188 → T_188 o0 = some (0, 13, 0) → 0 ≤ i5_188.toInt → (rI M_188 o0) → (∀ i : Nat, i < 880 → 0 ≤ ra M_188 o0 8 i) → 2147483647 - i5_188.toInt < (k : Int) → mj_V g l kY_TrustDeskModel_counts (d + 6) 70 [(5, .int i5_188), (3, .long v79), (0, .ref o0), (1, .int x1), (2, .int x2)] [] M_188 n_188 0 0 (tm_Q tm_FT (tm_in w_TrustDeskModel_counts_q3_x) x9 T0 M0 n0 (fun r _ M => r = none ∧ rI M o0)) := by
                intro k188
                induction k188 with
                | zero =>
                  intro i5_188 T_188 M_188 n_188 I_188 h_q0_188 iv0_188 kKR_188 kK8_188 hk188
                  have := mz_hi i5_188
                  have := kKR_188.1 15 _ _ rfl
                  have := kKR_188.1 16 _ _ rfl
                  have := kKR_188.1 19 _ _ rfl
                  omega
                | succ k188 ih188 =>
                  intro i5_188 T_188 M_188 n_188 I_188 h_q0_188 iv0_188 kKR_188 kK8_188 hk188
                  refine mv_iload d_TrustDeskModel_counts_70 rfl ?_
                  refine mv_bipush (v := 12) d_TrustDeskModel_counts_72 (by decide) ?_
                  have := mz_hi i5_188
                  refine mv_icmp_geZ (tgt := 97) (a := i5_188.toInt) (b := 12) d_TrustDeskModel_counts_74 (by decide) rfl (by decide) (fun b189 => ?_) (fun b189 => ?_)
                  · exact mv_vret d_TrustDeskModel_counts_97 rfl ⟨_, I_188, rfl, kKR_188⟩
                  · refine mv_aload_n d_TrustDeskModel_counts_77 rfl rfl ?_
                    obtain ⟨a191, q190, t_a191⟩ := tm_atR I_188 h_q0_188 (k := 65) rfl
                    refine tr_getK q190 d_TrustDeskModel_counts_78 f_TrustDeskModel_155_13 ?_
                    refine mv_iload d_TrustDeskModel_counts_81 rfl ?_
                    refine mv_aload_n d_TrustDeskModel_counts_83 rfl rfl ?_
                    obtain ⟨a193, q192, t_a193⟩ := tm_atR I_188 h_q0_188 (k := 64) rfl
                    refine tr_getK q192 d_TrustDeskModel_counts_84 f_TrustDeskModel_152_13 ?_
                    refine mv_iload d_TrustDeskModel_counts_87 rfl ?_
                    refine tr_ialdR (o := o0) (k := 64) I_188 q192 t_a193 (by decide) d_TrustDeskModel_counts_89 (vp_in_iff.mpr (by have := kKR_188.1 32 _ _ rfl; omega)) (fun v194 e195 => ?_)
                    refine tr_iastR (k := 65) I_188 kKR_188 (I_188.up h_o0) q190 t_a191 (by decide) (by decide) (fun lo hi h => by cases h) (Or.inl (by decide)) d_TrustDeskModel_counts_90 (vp_in_iff.mpr (by have := kKR_188.1 32 _ _ rfl; omega)) (fun M196 I197 K198 R199 E200 A201 V202 => ?_)
                    have z203 := (V202 32)
                    have K204 : ∀ i : Nat, i < 880 → 0 ≤ ra M196 o0 8 i := (by have e9 := ((sA_a A201 (by decide +kernel)) : sA [8] _ _ _) 8 rfl; rw [e9]; exact kK8_188)
                    refine mv_iinc (v := (i5_188 + 1)) (lv' := [(5, .int (i5_188 + 1)), (3, .long v79), (0, .ref o0), (1, .int x1), (2, .int x2)]) d_TrustDeskModel_counts_91 rfl rfl (by decide) rfl ?_
                    refine mv_goto (tgt := 70) d_TrustDeskModel_counts_94 (by decide) ?_
                    have b205 : (i5_188 + 1 : Int32).toInt = (i5_188.toInt + 1) := mz_add2 rfl (by decide) (by have := R199.1 32 _ _ rfl; omega) (by have := R199.1 32 _ _ rfl; omega)
                    have b206 : (i5_188 + 1).toInt = i5_188.toInt + 1 := mz_addn 1 1 (by decide) (by have := mz_lo i5_188; omega) (by have := mz_hi i5_188; omega)
                    exact (ih188 (i5_188 + 1) T_188 M196 n_188 I197 h_q0_188 (by have := R199.1 32 _ _ rfl; first | omega | decide | exact fun h9 => absurd (by decide) h9) R199 K204 (by have := R199.1 32 _ _ rfl; omega))
              have : (0 : Int32).toInt = 0 := by decide
              exact mv_less (Nat.zero_le _) (Nat.zero_le _) (L70_188 4294967296 0 T75 M179 n74 I180 t81 (by have := R183.1 32 _ _ rfl; first | omega | decide | exact fun h9 => absurd (by decide) h9) R183 K187 (by show (2147483647 - (0 : Int) : Int) < _; decide))
            · exact mv_vret d_TrustDeskModel_counts_56 rfl ⟨_, I77, rfl, R80⟩
def w_TrustDeskModel_counts_q4_x : List Nat := [1368, 1369, 20064, 20065]
set_option maxHeartbeats 100000000 in theorem tc_TrustDeskModel_counts_q4_x {g : mj_G} {l : Launch} {d : Nat} {T0 : tm_H} {M0 : mj_M} {n0 x9 : Nat} {o0 : Nat} {x1 : Int32} {x2 : Int32} (h_o0 : T0 o0 = some (0, 13, 0)) (yR : rI M0 o0) (y8 : ∀ i : Nat, i < 880 → 0 ≤ ra M0 o0 8 i) (yl : 8 ≤ x1.toInt ∧ x1.toInt ≤ rv M0 o0 32 ∧ 0 ≤ x2.toInt ∧ x2.toInt ≤ x1.toInt) (I0 : tm_I tm_FT (tm_in w_TrustDeskModel_counts_q4_x) x9 T0 M0 n0 T0 M0 n0) : mj_Met g l kY_TrustDeskModel_counts (d + 7) [.ref o0, .int x1, .int x2] M0 n0 0 0 (tm_Q tm_FT (tm_in w_TrustDeskModel_counts_q4_x) x9 T0 M0 n0 (fun r _ M => r = none ∧ rI M o0)) := by
  refine mj_enter (by decide) (Nat.le_of_ble_eq_true rfl) ?_
  have K1 : ∀ i : Nat, i < 880 → 0 ≤ ra M0 o0 8 i := y8
  refine mv_iload_n d_TrustDeskModel_counts_0 rfl rfl ?_
  refine mv_aload_n d_TrustDeskModel_counts_1 rfl rfl ?_
  obtain ⟨v3, q2⟩ := tm_atI I0 h_o0 (k := 32) rfl
  refine tr_getK q2 d_TrustDeskModel_counts_2 f_TrustDeskModel_415_13 ?_
  have := yR.f (k := 32) q2 rfl
  have := tm_rv q2
  have := mz_hi x1
  have := mz_hi v3
  refine mv_icmp_neZ (tgt := 98) (a := x1.toInt) (b := v3.toInt) d_TrustDeskModel_counts_5 (by decide) rfl rfl (fun b4 => ?_) (fun b4 => ?_)
  · refine mv_aload_n d_TrustDeskModel_counts_98 rfl rfl ?_
    obtain ⟨v6, q5⟩ := tm_atI I0 h_o0 (k := 67) rfl
    refine tr_getK q5 d_TrustDeskModel_counts_99 f_TrustDeskModel_560_13 ?_
    refine mv_iload_n d_TrustDeskModel_counts_102 rfl rfl ?_
    refine mv_ishr d_TrustDeskModel_counts_103 ?_
    refine mv_iconst (v := 1) d_TrustDeskModel_counts_104 (by decide) ?_
    refine mv_iand d_TrustDeskModel_counts_105 ?_
    have := mz_hi ((v6 >>> (x1 &&& 31)) &&& 1)
    refine mv_if_neZ (tgt := 118) (a := ((v6 >>> (x1 &&& 31)) &&& 1).toInt) d_TrustDeskModel_counts_106 (by decide) rfl (fun b7 => ?_) (fun b7 => ?_)
    · refine mv_iconst (v := 0) d_TrustDeskModel_counts_118 (by decide) ?_
      refine mv_istore_n (lv' := [(3, .int 0), (0, .ref o0), (1, .int x1), (2, .int x2)]) d_TrustDeskModel_counts_119 rfl (by decide) rfl ?_
      have L120_8 : ∀ (k : Nat) (i3_8 : Int32) (T_8 : tm_H) (M_8 : mj_M) (n_8 : Nat), tm_I tm_FT (tm_in w_TrustDeskModel_counts_q4_x) x9 T0 M0 n0 T_8 M_8 n_8 → T_8 o0 = some (0, 13, 0) → 0 ≤ i3_8.toInt → rv M_8 o0 32 = rv M0 o0 32 → (rI M_8 o0) → (∀ i : Nat, i < 880 → 0 ≤ ra M_8 o0 8 i) → 2147483647 - i3_8.toInt < (k : Int) → mj_V g l kY_TrustDeskModel_counts (d + 7) 120 [(3, .int i3_8), (0, .ref o0), (1, .int x1), (2, .int x2)] [] M_8 n_8 0 0 (tm_Q tm_FT (tm_in w_TrustDeskModel_counts_q4_x) x9 T0 M0 n0 (fun r _ M => r = none ∧ rI M o0)) := by
        intro k8
        induction k8 with
        | zero =>
          intro i3_8 T_8 M_8 n_8 I_8 h_q0_8 iv0_8 iv1_8 kKR_8 kK8_8 hk8
          have := mz_hi i3_8
          have := kKR_8.1 15 _ _ rfl
          have := kKR_8.1 16 _ _ rfl
          have := kKR_8.1 19 _ _ rfl
          omega
        | succ k8 ih8 =>
          intro i3_8 T_8 M_8 n_8 I_8 h_q0_8 iv0_8 iv1_8 kKR_8 kK8_8 hk8
          refine mv_iload_n d_TrustDeskModel_counts_120 rfl rfl ?_
          refine mv_iload_n d_TrustDeskModel_counts_121 rfl rfl ?_
          have := mz_hi i3_8
          have := mz_hi x2
          refine mv_icmp_gtZ (tgt := 163) (a := i3_8.toInt) (b := x2.toInt) d_TrustDeskModel_counts_122 (by decide) rfl rfl (fun b9 => ?_) (fun b9 => ?_)
          · exact mv_vret d_TrustDeskModel_counts_163 rfl ⟨_, I_8, rfl, kKR_8⟩
          · refine mv_iload_n d_TrustDeskModel_counts_125 rfl rfl ?_
            refine mv_bipush (v := 8) d_TrustDeskModel_counts_126 (by decide) ?_
            have := mz_hi i3_8
            refine mv_icmp_geZ (tgt := 163) (a := i3_8.toInt) (b := 8) d_TrustDeskModel_counts_128 (by decide) rfl (by decide) (fun b10 => ?_) (fun b10 => ?_)
            · exact mv_vret d_TrustDeskModel_counts_163 rfl ⟨_, I_8, rfl, kKR_8⟩
            · refine mv_aload_n d_TrustDeskModel_counts_131 rfl rfl ?_
              obtain ⟨a12, q11, t_a12⟩ := tm_atR I_8 h_q0_8 (k := 64) rfl
              refine tr_getK q11 d_TrustDeskModel_counts_132 f_TrustDeskModel_152_13 ?_
              refine mv_iload_n d_TrustDeskModel_counts_135 rfl rfl ?_
              refine mv_iload_n d_TrustDeskModel_counts_136 rfl rfl ?_
              refine tr_iastR (k := 64) I_8 kKR_8 (I_8.up h_o0) q11 t_a12 (by decide) (by decide) (fun lo hi h => by cases h) (Or.inl (by decide)) d_TrustDeskModel_counts_137 (vp_in_iff.mpr (by have := kKR_8.1 32 _ _ rfl; omega)) (fun M13 I14 K15 R16 E17 A18 V19 => ?_)
              have z20 := (V19 32)
              have K21 : ∀ i : Nat, i < 880 → 0 ≤ ra M13 o0 8 i := (by have e9 := ((sA_a A18 (by decide +kernel)) : sA [8] _ _ _) 8 rfl; rw [e9]; exact kK8_8)
              refine mv_aload_n d_TrustDeskModel_counts_138 rfl rfl ?_
              refine mv_iload_n d_TrustDeskModel_counts_139 rfl rfl ?_
              refine mv_iconst (v := 1) d_TrustDeskModel_counts_140 (by decide) ?_
              refine mv_iadd d_TrustDeskModel_counts_141 ?_
              refine mv_iload_n d_TrustDeskModel_counts_142 rfl rfl ?_
              refine mv_iload_n d_TrustDeskModel_counts_143 rfl rfl ?_
              have := mz_hi i3_8
              have := mz_hi x2
              refine mv_icmp_neZ (tgt := 153) (a := i3_8.toInt) (b := x2.toInt) d_TrustDeskModel_counts_144 (by decide) rfl rfl (fun b22 => ?_) (fun b22 => ?_)
              · refine mv_iload_n d_TrustDeskModel_counts_153 rfl rfl ?_
                obtain ⟨_, b29, -⟩ := I14.1 _ _ h_q0_8
                have b30 : (x1 + 1 : Int32).toInt = (x1.toInt + 1) := mz_add2 rfl (by decide) (by have := R16.1 32 _ _ rfl; omega) (by have := R16.1 32 _ _ rfl; omega)
                refine mv_callV (kc' := 0) (ks' := 0) (As := [.int (x1 + 1), .int x2]) (st9 := [.int x2, .int (x1 + 1), .ref o0]) d_TrustDeskModel_counts_154 lV_TrustDeskModel_578 b29 rfl (tc_TrustDeskModel_counts_q3_x (d := d) (x9 := x9) (o0 := o0) (x1 := (x1 + 1)) (x2 := x2) h_q0_8 R16 K21 (by have := R16.1 32 _ _ rfl; omega) I14.start) rfl (Nat.le_of_ble_eq_true rfl) (Nat.le_of_ble_eq_true rfl) (Nat.le_of_ble_eq_true rfl) (hst := rfl) (fun b23r M24 n25 b23 => ?_)
                obtain ⟨T26, J27, rfl, R31⟩ := b23
                have I28 := I14.call J27 (tm_sub (by decide)) (Or.inl rfl)
                have t32 := J27.up h_q0_8
                have z33 := (rv_c I14 J27 (I14.up h_o0) (k := 32) rfl).trans z20
                have K34 : ∀ i : Nat, i < 880 → 0 ≤ ra M24 o0 8 i := (by have e9 := ((sA_c I14 J27 (I14.up h_o0) (by decide +kernel)) : sA [8] _ _ _) 8 rfl; rw [e9]; exact K21)
                clear z20
                have q35 := J27.keep h_q0_8 (by decide) (K15 _ 13 64 _ q11)
                have t36 := J27.up t_a12
                refine mv_iinc (v := (i3_8 + 1)) (lv' := [(3, .int (i3_8 + 1)), (0, .ref o0), (1, .int x1), (2, .int x2)]) d_TrustDeskModel_counts_157 rfl rfl (by decide) rfl ?_
                refine mv_goto (tgt := 120) d_TrustDeskModel_counts_160 (by decide) ?_
                have b37 : (i3_8 + 1 : Int32).toInt = (i3_8.toInt + 1) := mz_add2 rfl (by decide) (by have := R31.1 32 _ _ rfl; omega) (by have := R31.1 32 _ _ rfl; omega)
                have b38 : (i3_8 + 1).toInt = i3_8.toInt + 1 := mz_addn 1 1 (by decide) (by have := mz_lo i3_8; omega) (by have := mz_hi i3_8; omega)
                exact (ih8 (i3_8 + 1) T26 M24 n25 I28 t32 (by have := R31.1 32 _ _ rfl; first | omega | decide | exact fun h9 => absurd (by decide) h9) (by have := R31.1 32 _ _ rfl; first | omega | decide | exact fun h9 => absurd (by decide) h9) R31 K34 (by have := R31.1 32 _ _ rfl; omega))
              · refine mv_iload_n d_TrustDeskModel_counts_147 rfl rfl ?_
                refine mv_iconst (v := 1) d_TrustDeskModel_counts_148 (by decide) ?_
                refine mv_iadd d_TrustDeskModel_counts_149 ?_
                refine mv_goto (tgt := 154) d_TrustDeskModel_counts_150 (by decide) ?_
                obtain ⟨_, b45, -⟩ := I14.1 _ _ h_q0_8
                have b46 : (x1 + 1 : Int32).toInt = (x1.toInt + 1) := mz_add2 rfl (by decide) (by have := R16.1 32 _ _ rfl; omega) (by have := R16.1 32 _ _ rfl; omega)
                have b47 : (x2 + 1 : Int32).toInt = (x2.toInt + 1) := mz_add2 rfl (by decide) (by have := R16.1 32 _ _ rfl; omega) (by have := R16.1 32 _ _ rfl; omega)
                refine mv_callV (kc' := 0) (ks' := 0) (As := [.int (x1 + 1), .int (x2 + 1)]) (st9 := [.int (x2 + 1), .int (x1 + 1), .ref o0]) d_TrustDeskModel_counts_154 lV_TrustDeskModel_578 b45 rfl (tc_TrustDeskModel_counts_q3_x (d := d) (x9 := x9) (o0 := o0) (x1 := (x1 + 1)) (x2 := (x2 + 1)) h_q0_8 R16 K21 (by have := R16.1 32 _ _ rfl; omega) I14.start) rfl (Nat.le_of_ble_eq_true rfl) (Nat.le_of_ble_eq_true rfl) (Nat.le_of_ble_eq_true rfl) (hst := rfl) (fun b39r M40 n41 b39 => ?_)
                obtain ⟨T42, J43, rfl, R48⟩ := b39
                have I44 := I14.call J43 (tm_sub (by decide)) (Or.inl rfl)
                have t49 := J43.up h_q0_8
                have z50 := (rv_c I14 J43 (I14.up h_o0) (k := 32) rfl).trans z20
                have K51 : ∀ i : Nat, i < 880 → 0 ≤ ra M40 o0 8 i := (by have e9 := ((sA_c I14 J43 (I14.up h_o0) (by decide +kernel)) : sA [8] _ _ _) 8 rfl; rw [e9]; exact K21)
                clear z20
                have q52 := J43.keep h_q0_8 (by decide) (K15 _ 13 64 _ q11)
                have t53 := J43.up t_a12
                refine mv_iinc (v := (i3_8 + 1)) (lv' := [(3, .int (i3_8 + 1)), (0, .ref o0), (1, .int x1), (2, .int x2)]) d_TrustDeskModel_counts_157 rfl rfl (by decide) rfl ?_
                refine mv_goto (tgt := 120) d_TrustDeskModel_counts_160 (by decide) ?_
                have b54 : (i3_8 + 1 : Int32).toInt = (i3_8.toInt + 1) := mz_add2 rfl (by decide) (by have := R48.1 32 _ _ rfl; omega) (by have := R48.1 32 _ _ rfl; omega)
                have b55 : (i3_8 + 1).toInt = i3_8.toInt + 1 := mz_addn 1 1 (by decide) (by have := mz_lo i3_8; omega) (by have := mz_hi i3_8; omega)
                exact (ih8 (i3_8 + 1) T42 M40 n41 I44 t49 (by have := R48.1 32 _ _ rfl; first | omega | decide | exact fun h9 => absurd (by decide) h9) (by have := R48.1 32 _ _ rfl; first | omega | decide | exact fun h9 => absurd (by decide) h9) R48 K51 (by have := R48.1 32 _ _ rfl; omega))
      have : (0 : Int32).toInt = 0 := by decide
      exact mv_less (Nat.zero_le _) (Nat.zero_le _) (L120_8 4294967296 0 T0 M0 n0 I0 h_o0 (by have := yR.1 32 _ _ rfl; first | omega | decide | exact fun h9 => absurd (by decide) h9) (by have := yR.1 32 _ _ rfl; first | omega | decide | exact fun h9 => absurd (by decide) h9) yR K1 (by show (2147483647 - (0 : Int) : Int) < _; decide))
    · refine mv_aload_n d_TrustDeskModel_counts_109 rfl rfl ?_
      refine mv_iload_n d_TrustDeskModel_counts_110 rfl rfl ?_
      refine mv_iconst (v := 1) d_TrustDeskModel_counts_111 (by decide) ?_
      refine mv_iadd d_TrustDeskModel_counts_112 ?_
      refine mv_iload_n d_TrustDeskModel_counts_113 rfl rfl ?_
      obtain ⟨_, b62, -⟩ := I0.1 _ _ h_o0
      have b63 : (x1 + 1 : Int32).toInt = (x1.toInt + 1) := mz_add2 rfl (by decide) (by have := yR.1 32 _ _ rfl; omega) (by have := yR.1 32 _ _ rfl; omega)
      refine mv_callV (kc' := 0) (ks' := 0) (As := [.int (x1 + 1), .int x2]) (st9 := [.int x2, .int (x1 + 1), .ref o0]) d_TrustDeskModel_counts_114 lV_TrustDeskModel_578 b62 rfl (tc_TrustDeskModel_counts_q3_x (d := d) (x9 := x9) (o0 := o0) (x1 := (x1 + 1)) (x2 := x2) h_o0 yR K1 (by have := yR.1 32 _ _ rfl; omega) I0.start) rfl (Nat.le_of_ble_eq_true rfl) (Nat.le_of_ble_eq_true rfl) (Nat.le_of_ble_eq_true rfl) (hst := rfl) (fun b56r M57 n58 b56 => ?_)
      obtain ⟨T59, J60, rfl, R64⟩ := b56
      have I61 := I0.call J60 (tm_sub (by decide)) (Or.inl rfl)
      have t65 := J60.up h_o0
      have z66 := (rv_c I0 J60 (I0.up h_o0) (k := 32) rfl)
      have K67 : ∀ i : Nat, i < 880 → 0 ≤ ra M57 o0 8 i := (by have e9 := ((sA_c I0 J60 (I0.up h_o0) (by decide +kernel)) : sA [8] _ _ _) 8 rfl; rw [e9]; exact K1)
      have q68 := J60.keep h_o0 (by decide) q2
      have q69 := J60.keep h_o0 (by decide) q5
      exact mv_vret d_TrustDeskModel_counts_117 rfl ⟨_, I61, rfl, R64⟩
  · refine mv_aload_n d_TrustDeskModel_counts_8 rfl rfl ?_
    refine mv_aload_n d_TrustDeskModel_counts_9 rfl rfl ?_
    obtain ⟨a71, q70, t_a71⟩ := tm_atR I0 h_o0 (k := 64) rfl
    refine tr_getK q70 d_TrustDeskModel_counts_10 f_TrustDeskModel_152_13 ?_
    obtain ⟨_, b78, -⟩ := I0.1 _ _ h_o0
    refine mv_callV (kc' := 0) (ks' := 0) (As := [.ref a71]) (st9 := [.ref a71, .ref o0]) d_TrustDeskModel_counts_13 lV_TrustDeskModel_567 b78 rfl (tc_TrustDeskModel_idle_q64_x (d := (d + 4)) (x9 := x9) (o0 := o0) (o1 := a71) h_o0 t_a71 yR K1 I0.start) rfl (Nat.le_of_ble_eq_true rfl) (Nat.le_of_ble_eq_true rfl) (Nat.le_of_ble_eq_true rfl) (hst := rfl) (fun b72r M73 n74 b72 => ?_)
    obtain ⟨T75, J76, v79, rfl, R80⟩ := b72
    have I77 := I0.call J76 (tm_sub (by decide)) (Or.inl rfl)
    have t81 := J76.up h_o0
    have z82 := (rv_c I0 J76 (I0.up h_o0) (k := 32) rfl)
    have K83 : ∀ i : Nat, i < 880 → 0 ≤ ra M73 o0 8 i := (by have e9 := ((sA_c I0 J76 (I0.up h_o0) (by decide +kernel)) : sA [8] _ _ _) 8 rfl; rw [e9]; exact K1)
    have q84 := J76.keep h_o0 (by decide) q2
    have q85 := J76.keep h_o0 (by decide) q70
    have t86 := J76.up t_a71
    refine mv_lstore_n (lv' := [(3, .long v79), (0, .ref o0), (1, .int x1), (2, .int x2)]) d_TrustDeskModel_counts_16 rfl (by decide) rfl ?_
    refine mv_lload_n d_TrustDeskModel_counts_17 rfl rfl ?_
    refine mv_lconst (v := 0) d_TrustDeskModel_counts_18 (by decide) ?_
    refine mv_lltZ (tgt := 56) (a := v79.toInt) (b := 0) d_TrustDeskModel_counts_19 d_TrustDeskModel_counts_20 (by decide) rfl (by decide) (fun b87 => ?_) (fun b87 => ?_)
    · exact mv_vret d_TrustDeskModel_counts_56 rfl ⟨_, I77, rfl, R80⟩
    · refine mv_aload_n d_TrustDeskModel_counts_23 rfl rfl ?_
      obtain ⟨v89, q88⟩ := tm_atI I77 t81 (k := 69) rfl
      refine tr_getK q88 d_TrustDeskModel_counts_24 f_TrustDeskModel_571_13 ?_
      have := mz_hi v89
      refine mv_if_eqZ (tgt := 57) (a := v89.toInt) d_TrustDeskModel_counts_27 (by decide) rfl (fun b90 => ?_) (fun b90 => ?_)
      · refine mv_aload_n d_TrustDeskModel_counts_57 rfl rfl ?_
        refine mv_lload_n d_TrustDeskModel_counts_58 rfl rfl ?_
        refine tr_putR (k := 68) I77 R80 t81 rfl ⟨_, rfl⟩ (fun _ h => by cases h) rfl (fun lo hi h => by cases h) (Or.inl (by decide)) d_TrustDeskModel_counts_59 p_TrustDeskModel_574_13 rfl rfl (fun M91 I92 q93 K94 R95 A96 V97 => ?_)
        have z98 := (V97 32 (by decide)).trans z82
        have K99 : ∀ i : Nat, i < 880 → 0 ≤ ra M91 o0 8 i := (by have e9 := ((sA_f A96 (by decide)) : sA [8] _ _ _) 8 rfl; rw [e9]; exact K83)
        clear z82
        refine mv_aload_n d_TrustDeskModel_counts_62 rfl rfl ?_
        refine mv_iload_n d_TrustDeskModel_counts_63 rfl rfl ?_
        refine tr_putR (k := 69) I92 R95 t81 rfl ⟨_, rfl⟩ (fun _ h => by cases h) rfl (fun lo hi h => by cases h) (Or.inl (by decide)) d_TrustDeskModel_counts_64 p_TrustDeskModel_571_13 rfl rfl (fun M100 I101 q102 K103 R104 A105 V106 => ?_)
        have z107 := (V106 32 (by decide)).trans z98
        have K108 : ∀ i : Nat, i < 880 → 0 ≤ ra M100 o0 8 i := (by have e9 := ((sA_f A105 (by decide)) : sA [8] _ _ _) 8 rfl; rw [e9]; exact K99)
        clear z98
        refine mv_iconst (v := 0) d_TrustDeskModel_counts_67 (by decide) ?_
        refine mv_istore (lv' := [(5, .int 0), (3, .long v79), (0, .ref o0), (1, .int x1), (2, .int x2)]) d_TrustDeskModel_counts_68 (by decide) rfl ?_
        have L70_109 : ∀ (k : Nat) (i5_109 : Int32) (T_109 : tm_H) (M_109 : mj_M) (n_109 : Nat), tm_I tm_FT (tm_in w_TrustDeskModel_counts_q4_x) x9 T0 M0 n0 T_109 M_109 n_109 → T_109 o0 = some (0, 13, 0) → 0 ≤ i5_109.toInt → (rI M_109 o0) → (∀ i : Nat, i < 880 → 0 ≤ ra M_109 o0 8 i) → 2147483647 - i5_109.toInt < (k : Int) → mj_V g l kY_TrustDeskModel_counts (d + 7) 70 [(5, .int i5_109), (3, .long v79), (0, .ref o0), (1, .int x1), (2, .int x2)] [] M_109 n_109 0 0 (tm_Q tm_FT (tm_in w_TrustDeskModel_counts_q4_x) x9 T0 M0 n0 (fun r _ M => r = none ∧ rI M o0)) := by
          intro k109
          induction k109 with
          | zero =>
            intro i5_109 T_109 M_109 n_109 I_109 h_q0_109 iv0_109 kKR_109 kK8_109 hk109
            have := mz_hi i5_109
            have := kKR_109.1 15 _ _ rfl
            have := kKR_109.1 16 _ _ rfl
            have := kKR_109.1 19 _ _ rfl
            omega
          | succ k109 ih109 =>
            intro i5_109 T_109 M_109 n_109 I_109 h_q0_109 iv0_109 kKR_109 kK8_109 hk109
            refine mv_iload d_TrustDeskModel_counts_70 rfl ?_
            refine mv_bipush (v := 12) d_TrustDeskModel_counts_72 (by decide) ?_
            have := mz_hi i5_109
            refine mv_icmp_geZ (tgt := 97) (a := i5_109.toInt) (b := 12) d_TrustDeskModel_counts_74 (by decide) rfl (by decide) (fun b110 => ?_) (fun b110 => ?_)
            · exact mv_vret d_TrustDeskModel_counts_97 rfl ⟨_, I_109, rfl, kKR_109⟩
            · refine mv_aload_n d_TrustDeskModel_counts_77 rfl rfl ?_
              obtain ⟨a112, q111, t_a112⟩ := tm_atR I_109 h_q0_109 (k := 65) rfl
              refine tr_getK q111 d_TrustDeskModel_counts_78 f_TrustDeskModel_155_13 ?_
              refine mv_iload d_TrustDeskModel_counts_81 rfl ?_
              refine mv_aload_n d_TrustDeskModel_counts_83 rfl rfl ?_
              obtain ⟨a114, q113, t_a114⟩ := tm_atR I_109 h_q0_109 (k := 64) rfl
              refine tr_getK q113 d_TrustDeskModel_counts_84 f_TrustDeskModel_152_13 ?_
              refine mv_iload d_TrustDeskModel_counts_87 rfl ?_
              refine tr_ialdR (o := o0) (k := 64) I_109 q113 t_a114 (by decide) d_TrustDeskModel_counts_89 (vp_in_iff.mpr (by have := kKR_109.1 32 _ _ rfl; omega)) (fun v115 e116 => ?_)
              refine tr_iastR (k := 65) I_109 kKR_109 (I_109.up h_o0) q111 t_a112 (by decide) (by decide) (fun lo hi h => by cases h) (Or.inl (by decide)) d_TrustDeskModel_counts_90 (vp_in_iff.mpr (by have := kKR_109.1 32 _ _ rfl; omega)) (fun M117 I118 K119 R120 E121 A122 V123 => ?_)
              have z124 := (V123 32)
              have K125 : ∀ i : Nat, i < 880 → 0 ≤ ra M117 o0 8 i := (by have e9 := ((sA_a A122 (by decide +kernel)) : sA [8] _ _ _) 8 rfl; rw [e9]; exact kK8_109)
              refine mv_iinc (v := (i5_109 + 1)) (lv' := [(5, .int (i5_109 + 1)), (3, .long v79), (0, .ref o0), (1, .int x1), (2, .int x2)]) d_TrustDeskModel_counts_91 rfl rfl (by decide) rfl ?_
              refine mv_goto (tgt := 70) d_TrustDeskModel_counts_94 (by decide) ?_
              have b126 : (i5_109 + 1 : Int32).toInt = (i5_109.toInt + 1) := mz_add2 rfl (by decide) (by have := R120.1 32 _ _ rfl; omega) (by have := R120.1 32 _ _ rfl; omega)
              have b127 : (i5_109 + 1).toInt = i5_109.toInt + 1 := mz_addn 1 1 (by decide) (by have := mz_lo i5_109; omega) (by have := mz_hi i5_109; omega)
              exact (ih109 (i5_109 + 1) T_109 M117 n_109 I118 h_q0_109 (by have := R120.1 32 _ _ rfl; first | omega | decide | exact fun h9 => absurd (by decide) h9) R120 K125 (by have := R120.1 32 _ _ rfl; omega))
        have : (0 : Int32).toInt = 0 := by decide
        exact mv_less (Nat.zero_le _) (Nat.zero_le _) (L70_109 4294967296 0 T75 M100 n74 I101 t81 (by have := R104.1 32 _ _ rfl; first | omega | decide | exact fun h9 => absurd (by decide) h9) R104 K108 (by show (2147483647 - (0 : Int) : Int) < _; decide))
      · refine mv_lload_n d_TrustDeskModel_counts_30 rfl rfl ?_
        refine mv_aload_n d_TrustDeskModel_counts_31 rfl rfl ?_
        obtain ⟨v129, q128⟩ := tm_atL I77 t81 (k := 68) rfl
        refine tr_getK q128 d_TrustDeskModel_counts_32 f_TrustDeskModel_574_13 ?_
        refine mv_lgtZ (tgt := 56) (a := v79.toInt) (b := v129.toInt) d_TrustDeskModel_counts_35 d_TrustDeskModel_counts_36 (by decide) rfl rfl (fun b130 => ?_) (fun b130 => ?_)
        · exact mv_vret d_TrustDeskModel_counts_56 rfl ⟨_, I77, rfl, R80⟩
        · refine mv_lload_n d_TrustDeskModel_counts_39 rfl rfl ?_
          refine mv_aload_n d_TrustDeskModel_counts_40 rfl rfl ?_
          refine tr_getK (k := 68) q128 d_TrustDeskModel_counts_41 f_TrustDeskModel_574_13 ?_
          refine mv_lneZ (tgt := 57) (a := v79.toInt) (b := v129.toInt) d_TrustDeskModel_counts_44 d_TrustDeskModel_counts_45 (by decide) rfl rfl (fun b131 => ?_) (fun b131 => ?_)
          · refine mv_aload_n d_TrustDeskModel_counts_57 rfl rfl ?_
            refine mv_lload_n d_TrustDeskModel_counts_58 rfl rfl ?_
            refine tr_putR (k := 68) I77 R80 t81 rfl ⟨_, rfl⟩ (fun _ h => by cases h) rfl (fun lo hi h => by cases h) (Or.inl (by decide)) d_TrustDeskModel_counts_59 p_TrustDeskModel_574_13 rfl rfl (fun M132 I133 q134 K135 R136 A137 V138 => ?_)
            have z139 := (V138 32 (by decide)).trans z82
            have K140 : ∀ i : Nat, i < 880 → 0 ≤ ra M132 o0 8 i := (by have e9 := ((sA_f A137 (by decide)) : sA [8] _ _ _) 8 rfl; rw [e9]; exact K83)
            clear z82
            refine mv_aload_n d_TrustDeskModel_counts_62 rfl rfl ?_
            refine mv_iload_n d_TrustDeskModel_counts_63 rfl rfl ?_
            refine tr_putR (k := 69) I133 R136 t81 rfl ⟨_, rfl⟩ (fun _ h => by cases h) rfl (fun lo hi h => by cases h) (Or.inl (by decide)) d_TrustDeskModel_counts_64 p_TrustDeskModel_571_13 rfl rfl (fun M141 I142 q143 K144 R145 A146 V147 => ?_)
            have z148 := (V147 32 (by decide)).trans z139
            have K149 : ∀ i : Nat, i < 880 → 0 ≤ ra M141 o0 8 i := (by have e9 := ((sA_f A146 (by decide)) : sA [8] _ _ _) 8 rfl; rw [e9]; exact K140)
            clear z139
            refine mv_iconst (v := 0) d_TrustDeskModel_counts_67 (by decide) ?_
            refine mv_istore (lv' := [(5, .int 0), (3, .long v79), (0, .ref o0), (1, .int x1), (2, .int x2)]) d_TrustDeskModel_counts_68 (by decide) rfl ?_
            have L70_150 : ∀ (k : Nat) (i5_150 : Int32) (T_150 : tm_H) (M_150 : mj_M) (n_150 : Nat), tm_I tm_FT (tm_in w_TrustDeskModel_counts_q4_x) x9 T0 M0 n0 T_150 M_150 n_150 → T_150 o0 = some (0, 13, 0) → 0 ≤ i5_150.toInt → (rI M_150 o0) → (∀ i : Nat, i < 880 → 0 ≤ ra M_150 o0 8 i) → 2147483647 - i5_150.toInt < (k : Int) → mj_V g l kY_TrustDeskModel_counts (d + 7) 70 [(5, .int i5_150), (3, .long v79), (0, .ref o0), (1, .int x1), (2, .int x2)] [] M_150 n_150 0 0 (tm_Q tm_FT (tm_in w_TrustDeskModel_counts_q4_x) x9 T0 M0 n0 (fun r _ M => r = none ∧ rI M o0)) := by
              intro k150
              induction k150 with
              | zero =>
                intro i5_150 T_150 M_150 n_150 I_150 h_q0_150 iv0_150 kKR_150 kK8_150 hk150
                have := mz_hi i5_150
                have := kKR_150.1 15 _ _ rfl
                have := kKR_150.1 16 _ _ rfl
                have := kKR_150.1 19 _ _ rfl
                omega
              | succ k150 ih150 =>
                intro i5_150 T_150 M_150 n_150 I_150 h_q0_150 iv0_150 kKR_150 kK8_150 hk150
                refine mv_iload d_TrustDeskModel_counts_70 rfl ?_
                refine mv_bipush (v := 12) d_TrustDeskModel_counts_72 (by decide) ?_
                have := mz_hi i5_150
                refine mv_icmp_geZ (tgt := 97) (a := i5_150.toInt) (b := 12) d_TrustDeskModel_counts_74 (by decide) rfl (by decide) (fun b151 => ?_) (fun b151 => ?_)
                · exact mv_vret d_TrustDeskModel_counts_97 rfl ⟨_, I_150, rfl, kKR_150⟩
                · refine mv_aload_n d_TrustDeskModel_counts_77 rfl rfl ?_
                  obtain ⟨a153, q152, t_a153⟩ := tm_atR I_150 h_q0_150 (k := 65) rfl
                  refine tr_getK q152 d_TrustDeskModel_counts_78 f_TrustDeskModel_155_13 ?_
                  refine mv_iload d_TrustDeskModel_counts_81 rfl ?_
                  refine mv_aload_n d_TrustDeskModel_counts_83 rfl rfl ?_
                  obtain ⟨a155, q154, t_a155⟩ := tm_atR I_150 h_q0_150 (k := 64) rfl
                  refine tr_getK q154 d_TrustDeskModel_counts_84 f_TrustDeskModel_152_13 ?_
                  refine mv_iload d_TrustDeskModel_counts_87 rfl ?_
                  refine tr_ialdR (o := o0) (k := 64) I_150 q154 t_a155 (by decide) d_TrustDeskModel_counts_89 (vp_in_iff.mpr (by have := kKR_150.1 32 _ _ rfl; omega)) (fun v156 e157 => ?_)
                  refine tr_iastR (k := 65) I_150 kKR_150 (I_150.up h_o0) q152 t_a153 (by decide) (by decide) (fun lo hi h => by cases h) (Or.inl (by decide)) d_TrustDeskModel_counts_90 (vp_in_iff.mpr (by have := kKR_150.1 32 _ _ rfl; omega)) (fun M158 I159 K160 R161 E162 A163 V164 => ?_)
                  have z165 := (V164 32)
                  have K166 : ∀ i : Nat, i < 880 → 0 ≤ ra M158 o0 8 i := (by have e9 := ((sA_a A163 (by decide +kernel)) : sA [8] _ _ _) 8 rfl; rw [e9]; exact kK8_150)
                  refine mv_iinc (v := (i5_150 + 1)) (lv' := [(5, .int (i5_150 + 1)), (3, .long v79), (0, .ref o0), (1, .int x1), (2, .int x2)]) d_TrustDeskModel_counts_91 rfl rfl (by decide) rfl ?_
                  refine mv_goto (tgt := 70) d_TrustDeskModel_counts_94 (by decide) ?_
                  have b167 : (i5_150 + 1 : Int32).toInt = (i5_150.toInt + 1) := mz_add2 rfl (by decide) (by have := R161.1 32 _ _ rfl; omega) (by have := R161.1 32 _ _ rfl; omega)
                  have b168 : (i5_150 + 1).toInt = i5_150.toInt + 1 := mz_addn 1 1 (by decide) (by have := mz_lo i5_150; omega) (by have := mz_hi i5_150; omega)
                  exact (ih150 (i5_150 + 1) T_150 M158 n_150 I159 h_q0_150 (by have := R161.1 32 _ _ rfl; first | omega | decide | exact fun h9 => absurd (by decide) h9) R161 K166 (by have := R161.1 32 _ _ rfl; omega))
            have : (0 : Int32).toInt = 0 := by decide
            exact mv_less (Nat.zero_le _) (Nat.zero_le _) (L70_150 4294967296 0 T75 M141 n74 I142 t81 (by have := R145.1 32 _ _ rfl; first | omega | decide | exact fun h9 => absurd (by decide) h9) R145 K149 (by show (2147483647 - (0 : Int) : Int) < _; decide))
          · refine mv_iload_n d_TrustDeskModel_counts_48 rfl rfl ?_
            refine mv_aload_n d_TrustDeskModel_counts_49 rfl rfl ?_
            refine tr_getK (k := 69) q88 d_TrustDeskModel_counts_50 f_TrustDeskModel_571_13 ?_
            have := mz_hi x2
            have := mz_hi v89
            refine mv_icmp_ltZ (tgt := 57) (a := x2.toInt) (b := v89.toInt) d_TrustDeskModel_counts_53 (by decide) rfl rfl (fun b169 => ?_) (fun b169 => ?_)
            · refine mv_aload_n d_TrustDeskModel_counts_57 rfl rfl ?_
              refine mv_lload_n d_TrustDeskModel_counts_58 rfl rfl ?_
              refine tr_putR (k := 68) I77 R80 t81 rfl ⟨_, rfl⟩ (fun _ h => by cases h) rfl (fun lo hi h => by cases h) (Or.inl (by decide)) d_TrustDeskModel_counts_59 p_TrustDeskModel_574_13 rfl rfl (fun M170 I171 q172 K173 R174 A175 V176 => ?_)
              have z177 := (V176 32 (by decide)).trans z82
              have K178 : ∀ i : Nat, i < 880 → 0 ≤ ra M170 o0 8 i := (by have e9 := ((sA_f A175 (by decide)) : sA [8] _ _ _) 8 rfl; rw [e9]; exact K83)
              clear z82
              refine mv_aload_n d_TrustDeskModel_counts_62 rfl rfl ?_
              refine mv_iload_n d_TrustDeskModel_counts_63 rfl rfl ?_
              refine tr_putR (k := 69) I171 R174 t81 rfl ⟨_, rfl⟩ (fun _ h => by cases h) rfl (fun lo hi h => by cases h) (Or.inl (by decide)) d_TrustDeskModel_counts_64 p_TrustDeskModel_571_13 rfl rfl (fun M179 I180 q181 K182 R183 A184 V185 => ?_)
              have z186 := (V185 32 (by decide)).trans z177
              have K187 : ∀ i : Nat, i < 880 → 0 ≤ ra M179 o0 8 i := (by have e9 := ((sA_f A184 (by decide)) : sA [8] _ _ _) 8 rfl; rw [e9]; exact K178)
              clear z177
              refine mv_iconst (v := 0) d_TrustDeskModel_counts_67 (by decide) ?_
              refine mv_istore (lv' := [(5, .int 0), (3, .long v79), (0, .ref o0), (1, .int x1), (2, .int x2)]) d_TrustDeskModel_counts_68 (by decide) rfl ?_
              have L70_188 : ∀ (k : Nat) (i5_188 : Int32) (T_188 : tm_H) (M_188 : mj_M) (n_188 : Nat), tm_I tm_FT (tm_in w_TrustDeskModel_counts_q4_x) x9 T0 M0 n0 T_188 M_188 n_188 → T_188 o0 = some (0, 13, 0) → 0 ≤ i5_188.toInt → (rI M_188 o0) → (∀ i : Nat, i < 880 → 0 ≤ ra M_188 o0 8 i) → 2147483647 - i5_188.toInt < (k : Int) → mj_V g l kY_TrustDeskModel_counts (d + 7) 70 [(5, .int i5_188), (3, .long v79), (0, .ref o0), (1, .int x1), (2, .int x2)] [] M_188 n_188 0 0 (tm_Q tm_FT (tm_in w_TrustDeskModel_counts_q4_x) x9 T0 M0 n0 (fun r _ M => r = none ∧ rI M o0)) := by
                intro k188
                induction k188 with
                | zero =>
                  intro i5_188 T_188 M_188 n_188 I_188 h_q0_188 iv0_188 kKR_188 kK8_188 hk188
                  have := mz_hi i5_188
                  have := kKR_188.1 15 _ _ rfl
                  have := kKR_188.1 16 _ _ rfl
                  have := kKR_188.1 19 _ _ rfl
                  omega
                | succ k188 ih188 =>
                  intro i5_188 T_188 M_188 n_188 I_188 h_q0_188 iv0_188 kKR_188 kK8_188 hk188
                  refine mv_iload d_TrustDeskModel_counts_70 rfl ?_
                  refine mv_bipush (v := 12) d_TrustDeskModel_counts_72 (by decide) ?_
                  have := mz_hi i5_188
                  refine mv_icmp_geZ (tgt := 97) (a := i5_188.toInt) (b := 12) d_TrustDeskModel_counts_74 (by decide) rfl (by decide) (fun b189 => ?_) (fun b189 => ?_)
                  · exact mv_vret d_TrustDeskModel_counts_97 rfl ⟨_, I_188, rfl, kKR_188⟩
                  · refine mv_aload_n d_TrustDeskModel_counts_77 rfl rfl ?_
                    obtain ⟨a191, q190, t_a191⟩ := tm_atR I_188 h_q0_188 (k := 65) rfl
                    refine tr_getK q190 d_TrustDeskModel_counts_78 f_TrustDeskModel_155_13 ?_
                    refine mv_iload d_TrustDeskModel_counts_81 rfl ?_
                    refine mv_aload_n d_TrustDeskModel_counts_83 rfl rfl ?_
                    obtain ⟨a193, q192, t_a193⟩ := tm_atR I_188 h_q0_188 (k := 64) rfl
                    refine tr_getK q192 d_TrustDeskModel_counts_84 f_TrustDeskModel_152_13 ?_
                    refine mv_iload d_TrustDeskModel_counts_87 rfl ?_
                    refine tr_ialdR (o := o0) (k := 64) I_188 q192 t_a193 (by decide) d_TrustDeskModel_counts_89 (vp_in_iff.mpr (by have := kKR_188.1 32 _ _ rfl; omega)) (fun v194 e195 => ?_)
                    refine tr_iastR (k := 65) I_188 kKR_188 (I_188.up h_o0) q190 t_a191 (by decide) (by decide) (fun lo hi h => by cases h) (Or.inl (by decide)) d_TrustDeskModel_counts_90 (vp_in_iff.mpr (by have := kKR_188.1 32 _ _ rfl; omega)) (fun M196 I197 K198 R199 E200 A201 V202 => ?_)
                    have z203 := (V202 32)
                    have K204 : ∀ i : Nat, i < 880 → 0 ≤ ra M196 o0 8 i := (by have e9 := ((sA_a A201 (by decide +kernel)) : sA [8] _ _ _) 8 rfl; rw [e9]; exact kK8_188)
                    refine mv_iinc (v := (i5_188 + 1)) (lv' := [(5, .int (i5_188 + 1)), (3, .long v79), (0, .ref o0), (1, .int x1), (2, .int x2)]) d_TrustDeskModel_counts_91 rfl rfl (by decide) rfl ?_
                    refine mv_goto (tgt := 70) d_TrustDeskModel_counts_94 (by decide) ?_
                    have b205 : (i5_188 + 1 : Int32).toInt = (i5_188.toInt + 1) := mz_add2 rfl (by decide) (by have := R199.1 32 _ _ rfl; omega) (by have := R199.1 32 _ _ rfl; omega)
                    have b206 : (i5_188 + 1).toInt = i5_188.toInt + 1 := mz_addn 1 1 (by decide) (by have := mz_lo i5_188; omega) (by have := mz_hi i5_188; omega)
                    exact (ih188 (i5_188 + 1) T_188 M196 n_188 I197 h_q0_188 (by have := R199.1 32 _ _ rfl; first | omega | decide | exact fun h9 => absurd (by decide) h9) R199 K204 (by have := R199.1 32 _ _ rfl; omega))
              have : (0 : Int32).toInt = 0 := by decide
              exact mv_less (Nat.zero_le _) (Nat.zero_le _) (L70_188 4294967296 0 T75 M179 n74 I180 t81 (by have := R183.1 32 _ _ rfl; first | omega | decide | exact fun h9 => absurd (by decide) h9) R183 K187 (by show (2147483647 - (0 : Int) : Int) < _; decide))
            · exact mv_vret d_TrustDeskModel_counts_56 rfl ⟨_, I77, rfl, R80⟩
def w_TrustDeskModel_counts_q5_x : List Nat := [1368, 1369, 20064, 20065]
set_option maxHeartbeats 100000000 in theorem tc_TrustDeskModel_counts_q5_x {g : mj_G} {l : Launch} {d : Nat} {T0 : tm_H} {M0 : mj_M} {n0 x9 : Nat} {o0 : Nat} {x1 : Int32} {x2 : Int32} (h_o0 : T0 o0 = some (0, 13, 0)) (yR : rI M0 o0) (y8 : ∀ i : Nat, i < 880 → 0 ≤ ra M0 o0 8 i) (yl : 7 ≤ x1.toInt ∧ x1.toInt ≤ rv M0 o0 32 ∧ 0 ≤ x2.toInt ∧ x2.toInt ≤ x1.toInt) (I0 : tm_I tm_FT (tm_in w_TrustDeskModel_counts_q5_x) x9 T0 M0 n0 T0 M0 n0) : mj_Met g l kY_TrustDeskModel_counts (d + 8) [.ref o0, .int x1, .int x2] M0 n0 0 0 (tm_Q tm_FT (tm_in w_TrustDeskModel_counts_q5_x) x9 T0 M0 n0 (fun r _ M => r = none ∧ rI M o0)) := by
  refine mj_enter (by decide) (Nat.le_of_ble_eq_true rfl) ?_
  have K1 : ∀ i : Nat, i < 880 → 0 ≤ ra M0 o0 8 i := y8
  refine mv_iload_n d_TrustDeskModel_counts_0 rfl rfl ?_
  refine mv_aload_n d_TrustDeskModel_counts_1 rfl rfl ?_
  obtain ⟨v3, q2⟩ := tm_atI I0 h_o0 (k := 32) rfl
  refine tr_getK q2 d_TrustDeskModel_counts_2 f_TrustDeskModel_415_13 ?_
  have := yR.f (k := 32) q2 rfl
  have := tm_rv q2
  have := mz_hi x1
  have := mz_hi v3
  refine mv_icmp_neZ (tgt := 98) (a := x1.toInt) (b := v3.toInt) d_TrustDeskModel_counts_5 (by decide) rfl rfl (fun b4 => ?_) (fun b4 => ?_)
  · refine mv_aload_n d_TrustDeskModel_counts_98 rfl rfl ?_
    obtain ⟨v6, q5⟩ := tm_atI I0 h_o0 (k := 67) rfl
    refine tr_getK q5 d_TrustDeskModel_counts_99 f_TrustDeskModel_560_13 ?_
    refine mv_iload_n d_TrustDeskModel_counts_102 rfl rfl ?_
    refine mv_ishr d_TrustDeskModel_counts_103 ?_
    refine mv_iconst (v := 1) d_TrustDeskModel_counts_104 (by decide) ?_
    refine mv_iand d_TrustDeskModel_counts_105 ?_
    have := mz_hi ((v6 >>> (x1 &&& 31)) &&& 1)
    refine mv_if_neZ (tgt := 118) (a := ((v6 >>> (x1 &&& 31)) &&& 1).toInt) d_TrustDeskModel_counts_106 (by decide) rfl (fun b7 => ?_) (fun b7 => ?_)
    · refine mv_iconst (v := 0) d_TrustDeskModel_counts_118 (by decide) ?_
      refine mv_istore_n (lv' := [(3, .int 0), (0, .ref o0), (1, .int x1), (2, .int x2)]) d_TrustDeskModel_counts_119 rfl (by decide) rfl ?_
      have L120_8 : ∀ (k : Nat) (i3_8 : Int32) (T_8 : tm_H) (M_8 : mj_M) (n_8 : Nat), tm_I tm_FT (tm_in w_TrustDeskModel_counts_q5_x) x9 T0 M0 n0 T_8 M_8 n_8 → T_8 o0 = some (0, 13, 0) → 0 ≤ i3_8.toInt → rv M_8 o0 32 = rv M0 o0 32 → (rI M_8 o0) → (∀ i : Nat, i < 880 → 0 ≤ ra M_8 o0 8 i) → 2147483647 - i3_8.toInt < (k : Int) → mj_V g l kY_TrustDeskModel_counts (d + 8) 120 [(3, .int i3_8), (0, .ref o0), (1, .int x1), (2, .int x2)] [] M_8 n_8 0 0 (tm_Q tm_FT (tm_in w_TrustDeskModel_counts_q5_x) x9 T0 M0 n0 (fun r _ M => r = none ∧ rI M o0)) := by
        intro k8
        induction k8 with
        | zero =>
          intro i3_8 T_8 M_8 n_8 I_8 h_q0_8 iv0_8 iv1_8 kKR_8 kK8_8 hk8
          have := mz_hi i3_8
          have := kKR_8.1 15 _ _ rfl
          have := kKR_8.1 16 _ _ rfl
          have := kKR_8.1 19 _ _ rfl
          omega
        | succ k8 ih8 =>
          intro i3_8 T_8 M_8 n_8 I_8 h_q0_8 iv0_8 iv1_8 kKR_8 kK8_8 hk8
          refine mv_iload_n d_TrustDeskModel_counts_120 rfl rfl ?_
          refine mv_iload_n d_TrustDeskModel_counts_121 rfl rfl ?_
          have := mz_hi i3_8
          have := mz_hi x2
          refine mv_icmp_gtZ (tgt := 163) (a := i3_8.toInt) (b := x2.toInt) d_TrustDeskModel_counts_122 (by decide) rfl rfl (fun b9 => ?_) (fun b9 => ?_)
          · exact mv_vret d_TrustDeskModel_counts_163 rfl ⟨_, I_8, rfl, kKR_8⟩
          · refine mv_iload_n d_TrustDeskModel_counts_125 rfl rfl ?_
            refine mv_bipush (v := 8) d_TrustDeskModel_counts_126 (by decide) ?_
            have := mz_hi i3_8
            refine mv_icmp_geZ (tgt := 163) (a := i3_8.toInt) (b := 8) d_TrustDeskModel_counts_128 (by decide) rfl (by decide) (fun b10 => ?_) (fun b10 => ?_)
            · exact mv_vret d_TrustDeskModel_counts_163 rfl ⟨_, I_8, rfl, kKR_8⟩
            · refine mv_aload_n d_TrustDeskModel_counts_131 rfl rfl ?_
              obtain ⟨a12, q11, t_a12⟩ := tm_atR I_8 h_q0_8 (k := 64) rfl
              refine tr_getK q11 d_TrustDeskModel_counts_132 f_TrustDeskModel_152_13 ?_
              refine mv_iload_n d_TrustDeskModel_counts_135 rfl rfl ?_
              refine mv_iload_n d_TrustDeskModel_counts_136 rfl rfl ?_
              refine tr_iastR (k := 64) I_8 kKR_8 (I_8.up h_o0) q11 t_a12 (by decide) (by decide) (fun lo hi h => by cases h) (Or.inl (by decide)) d_TrustDeskModel_counts_137 (vp_in_iff.mpr (by have := kKR_8.1 32 _ _ rfl; omega)) (fun M13 I14 K15 R16 E17 A18 V19 => ?_)
              have z20 := (V19 32)
              have K21 : ∀ i : Nat, i < 880 → 0 ≤ ra M13 o0 8 i := (by have e9 := ((sA_a A18 (by decide +kernel)) : sA [8] _ _ _) 8 rfl; rw [e9]; exact kK8_8)
              refine mv_aload_n d_TrustDeskModel_counts_138 rfl rfl ?_
              refine mv_iload_n d_TrustDeskModel_counts_139 rfl rfl ?_
              refine mv_iconst (v := 1) d_TrustDeskModel_counts_140 (by decide) ?_
              refine mv_iadd d_TrustDeskModel_counts_141 ?_
              refine mv_iload_n d_TrustDeskModel_counts_142 rfl rfl ?_
              refine mv_iload_n d_TrustDeskModel_counts_143 rfl rfl ?_
              have := mz_hi i3_8
              have := mz_hi x2
              refine mv_icmp_neZ (tgt := 153) (a := i3_8.toInt) (b := x2.toInt) d_TrustDeskModel_counts_144 (by decide) rfl rfl (fun b22 => ?_) (fun b22 => ?_)
              · refine mv_iload_n d_TrustDeskModel_counts_153 rfl rfl ?_
                obtain ⟨_, b29, -⟩ := I14.1 _ _ h_q0_8
                have b30 : (x1 + 1 : Int32).toInt = (x1.toInt + 1) := mz_add2 rfl (by decide) (by have := R16.1 32 _ _ rfl; omega) (by have := R16.1 32 _ _ rfl; omega)
                refine mv_callV (kc' := 0) (ks' := 0) (As := [.int (x1 + 1), .int x2]) (st9 := [.int x2, .int (x1 + 1), .ref o0]) d_TrustDeskModel_counts_154 lV_TrustDeskModel_578 b29 rfl (tc_TrustDeskModel_counts_q4_x (d := d) (x9 := x9) (o0 := o0) (x1 := (x1 + 1)) (x2 := x2) h_q0_8 R16 K21 (by have := R16.1 32 _ _ rfl; omega) I14.start) rfl (Nat.le_of_ble_eq_true rfl) (Nat.le_of_ble_eq_true rfl) (Nat.le_of_ble_eq_true rfl) (hst := rfl) (fun b23r M24 n25 b23 => ?_)
                obtain ⟨T26, J27, rfl, R31⟩ := b23
                have I28 := I14.call J27 (tm_sub (by decide)) (Or.inl rfl)
                have t32 := J27.up h_q0_8
                have z33 := (rv_c I14 J27 (I14.up h_o0) (k := 32) rfl).trans z20
                have K34 : ∀ i : Nat, i < 880 → 0 ≤ ra M24 o0 8 i := (by have e9 := ((sA_c I14 J27 (I14.up h_o0) (by decide +kernel)) : sA [8] _ _ _) 8 rfl; rw [e9]; exact K21)
                clear z20
                have q35 := J27.keep h_q0_8 (by decide) (K15 _ 13 64 _ q11)
                have t36 := J27.up t_a12
                refine mv_iinc (v := (i3_8 + 1)) (lv' := [(3, .int (i3_8 + 1)), (0, .ref o0), (1, .int x1), (2, .int x2)]) d_TrustDeskModel_counts_157 rfl rfl (by decide) rfl ?_
                refine mv_goto (tgt := 120) d_TrustDeskModel_counts_160 (by decide) ?_
                have b37 : (i3_8 + 1 : Int32).toInt = (i3_8.toInt + 1) := mz_add2 rfl (by decide) (by have := R31.1 32 _ _ rfl; omega) (by have := R31.1 32 _ _ rfl; omega)
                have b38 : (i3_8 + 1).toInt = i3_8.toInt + 1 := mz_addn 1 1 (by decide) (by have := mz_lo i3_8; omega) (by have := mz_hi i3_8; omega)
                exact (ih8 (i3_8 + 1) T26 M24 n25 I28 t32 (by have := R31.1 32 _ _ rfl; first | omega | decide | exact fun h9 => absurd (by decide) h9) (by have := R31.1 32 _ _ rfl; first | omega | decide | exact fun h9 => absurd (by decide) h9) R31 K34 (by have := R31.1 32 _ _ rfl; omega))
              · refine mv_iload_n d_TrustDeskModel_counts_147 rfl rfl ?_
                refine mv_iconst (v := 1) d_TrustDeskModel_counts_148 (by decide) ?_
                refine mv_iadd d_TrustDeskModel_counts_149 ?_
                refine mv_goto (tgt := 154) d_TrustDeskModel_counts_150 (by decide) ?_
                obtain ⟨_, b45, -⟩ := I14.1 _ _ h_q0_8
                have b46 : (x1 + 1 : Int32).toInt = (x1.toInt + 1) := mz_add2 rfl (by decide) (by have := R16.1 32 _ _ rfl; omega) (by have := R16.1 32 _ _ rfl; omega)
                have b47 : (x2 + 1 : Int32).toInt = (x2.toInt + 1) := mz_add2 rfl (by decide) (by have := R16.1 32 _ _ rfl; omega) (by have := R16.1 32 _ _ rfl; omega)
                refine mv_callV (kc' := 0) (ks' := 0) (As := [.int (x1 + 1), .int (x2 + 1)]) (st9 := [.int (x2 + 1), .int (x1 + 1), .ref o0]) d_TrustDeskModel_counts_154 lV_TrustDeskModel_578 b45 rfl (tc_TrustDeskModel_counts_q4_x (d := d) (x9 := x9) (o0 := o0) (x1 := (x1 + 1)) (x2 := (x2 + 1)) h_q0_8 R16 K21 (by have := R16.1 32 _ _ rfl; omega) I14.start) rfl (Nat.le_of_ble_eq_true rfl) (Nat.le_of_ble_eq_true rfl) (Nat.le_of_ble_eq_true rfl) (hst := rfl) (fun b39r M40 n41 b39 => ?_)
                obtain ⟨T42, J43, rfl, R48⟩ := b39
                have I44 := I14.call J43 (tm_sub (by decide)) (Or.inl rfl)
                have t49 := J43.up h_q0_8
                have z50 := (rv_c I14 J43 (I14.up h_o0) (k := 32) rfl).trans z20
                have K51 : ∀ i : Nat, i < 880 → 0 ≤ ra M40 o0 8 i := (by have e9 := ((sA_c I14 J43 (I14.up h_o0) (by decide +kernel)) : sA [8] _ _ _) 8 rfl; rw [e9]; exact K21)
                clear z20
                have q52 := J43.keep h_q0_8 (by decide) (K15 _ 13 64 _ q11)
                have t53 := J43.up t_a12
                refine mv_iinc (v := (i3_8 + 1)) (lv' := [(3, .int (i3_8 + 1)), (0, .ref o0), (1, .int x1), (2, .int x2)]) d_TrustDeskModel_counts_157 rfl rfl (by decide) rfl ?_
                refine mv_goto (tgt := 120) d_TrustDeskModel_counts_160 (by decide) ?_
                have b54 : (i3_8 + 1 : Int32).toInt = (i3_8.toInt + 1) := mz_add2 rfl (by decide) (by have := R48.1 32 _ _ rfl; omega) (by have := R48.1 32 _ _ rfl; omega)
                have b55 : (i3_8 + 1).toInt = i3_8.toInt + 1 := mz_addn 1 1 (by decide) (by have := mz_lo i3_8; omega) (by have := mz_hi i3_8; omega)
                exact (ih8 (i3_8 + 1) T42 M40 n41 I44 t49 (by have := R48.1 32 _ _ rfl; first | omega | decide | exact fun h9 => absurd (by decide) h9) (by have := R48.1 32 _ _ rfl; first | omega | decide | exact fun h9 => absurd (by decide) h9) R48 K51 (by have := R48.1 32 _ _ rfl; omega))
      have : (0 : Int32).toInt = 0 := by decide
      exact mv_less (Nat.zero_le _) (Nat.zero_le _) (L120_8 4294967296 0 T0 M0 n0 I0 h_o0 (by have := yR.1 32 _ _ rfl; first | omega | decide | exact fun h9 => absurd (by decide) h9) (by have := yR.1 32 _ _ rfl; first | omega | decide | exact fun h9 => absurd (by decide) h9) yR K1 (by show (2147483647 - (0 : Int) : Int) < _; decide))
    · refine mv_aload_n d_TrustDeskModel_counts_109 rfl rfl ?_
      refine mv_iload_n d_TrustDeskModel_counts_110 rfl rfl ?_
      refine mv_iconst (v := 1) d_TrustDeskModel_counts_111 (by decide) ?_
      refine mv_iadd d_TrustDeskModel_counts_112 ?_
      refine mv_iload_n d_TrustDeskModel_counts_113 rfl rfl ?_
      obtain ⟨_, b62, -⟩ := I0.1 _ _ h_o0
      have b63 : (x1 + 1 : Int32).toInt = (x1.toInt + 1) := mz_add2 rfl (by decide) (by have := yR.1 32 _ _ rfl; omega) (by have := yR.1 32 _ _ rfl; omega)
      refine mv_callV (kc' := 0) (ks' := 0) (As := [.int (x1 + 1), .int x2]) (st9 := [.int x2, .int (x1 + 1), .ref o0]) d_TrustDeskModel_counts_114 lV_TrustDeskModel_578 b62 rfl (tc_TrustDeskModel_counts_q4_x (d := d) (x9 := x9) (o0 := o0) (x1 := (x1 + 1)) (x2 := x2) h_o0 yR K1 (by have := yR.1 32 _ _ rfl; omega) I0.start) rfl (Nat.le_of_ble_eq_true rfl) (Nat.le_of_ble_eq_true rfl) (Nat.le_of_ble_eq_true rfl) (hst := rfl) (fun b56r M57 n58 b56 => ?_)
      obtain ⟨T59, J60, rfl, R64⟩ := b56
      have I61 := I0.call J60 (tm_sub (by decide)) (Or.inl rfl)
      have t65 := J60.up h_o0
      have z66 := (rv_c I0 J60 (I0.up h_o0) (k := 32) rfl)
      have K67 : ∀ i : Nat, i < 880 → 0 ≤ ra M57 o0 8 i := (by have e9 := ((sA_c I0 J60 (I0.up h_o0) (by decide +kernel)) : sA [8] _ _ _) 8 rfl; rw [e9]; exact K1)
      have q68 := J60.keep h_o0 (by decide) q2
      have q69 := J60.keep h_o0 (by decide) q5
      exact mv_vret d_TrustDeskModel_counts_117 rfl ⟨_, I61, rfl, R64⟩
  · refine mv_aload_n d_TrustDeskModel_counts_8 rfl rfl ?_
    refine mv_aload_n d_TrustDeskModel_counts_9 rfl rfl ?_
    obtain ⟨a71, q70, t_a71⟩ := tm_atR I0 h_o0 (k := 64) rfl
    refine tr_getK q70 d_TrustDeskModel_counts_10 f_TrustDeskModel_152_13 ?_
    obtain ⟨_, b78, -⟩ := I0.1 _ _ h_o0
    refine mv_callV (kc' := 0) (ks' := 0) (As := [.ref a71]) (st9 := [.ref a71, .ref o0]) d_TrustDeskModel_counts_13 lV_TrustDeskModel_567 b78 rfl (tc_TrustDeskModel_idle_q64_x (d := (d + 5)) (x9 := x9) (o0 := o0) (o1 := a71) h_o0 t_a71 yR K1 I0.start) rfl (Nat.le_of_ble_eq_true rfl) (Nat.le_of_ble_eq_true rfl) (Nat.le_of_ble_eq_true rfl) (hst := rfl) (fun b72r M73 n74 b72 => ?_)
    obtain ⟨T75, J76, v79, rfl, R80⟩ := b72
    have I77 := I0.call J76 (tm_sub (by decide)) (Or.inl rfl)
    have t81 := J76.up h_o0
    have z82 := (rv_c I0 J76 (I0.up h_o0) (k := 32) rfl)
    have K83 : ∀ i : Nat, i < 880 → 0 ≤ ra M73 o0 8 i := (by have e9 := ((sA_c I0 J76 (I0.up h_o0) (by decide +kernel)) : sA [8] _ _ _) 8 rfl; rw [e9]; exact K1)
    have q84 := J76.keep h_o0 (by decide) q2
    have q85 := J76.keep h_o0 (by decide) q70
    have t86 := J76.up t_a71
    refine mv_lstore_n (lv' := [(3, .long v79), (0, .ref o0), (1, .int x1), (2, .int x2)]) d_TrustDeskModel_counts_16 rfl (by decide) rfl ?_
    refine mv_lload_n d_TrustDeskModel_counts_17 rfl rfl ?_
    refine mv_lconst (v := 0) d_TrustDeskModel_counts_18 (by decide) ?_
    refine mv_lltZ (tgt := 56) (a := v79.toInt) (b := 0) d_TrustDeskModel_counts_19 d_TrustDeskModel_counts_20 (by decide) rfl (by decide) (fun b87 => ?_) (fun b87 => ?_)
    · exact mv_vret d_TrustDeskModel_counts_56 rfl ⟨_, I77, rfl, R80⟩
    · refine mv_aload_n d_TrustDeskModel_counts_23 rfl rfl ?_
      obtain ⟨v89, q88⟩ := tm_atI I77 t81 (k := 69) rfl
      refine tr_getK q88 d_TrustDeskModel_counts_24 f_TrustDeskModel_571_13 ?_
      have := mz_hi v89
      refine mv_if_eqZ (tgt := 57) (a := v89.toInt) d_TrustDeskModel_counts_27 (by decide) rfl (fun b90 => ?_) (fun b90 => ?_)
      · refine mv_aload_n d_TrustDeskModel_counts_57 rfl rfl ?_
        refine mv_lload_n d_TrustDeskModel_counts_58 rfl rfl ?_
        refine tr_putR (k := 68) I77 R80 t81 rfl ⟨_, rfl⟩ (fun _ h => by cases h) rfl (fun lo hi h => by cases h) (Or.inl (by decide)) d_TrustDeskModel_counts_59 p_TrustDeskModel_574_13 rfl rfl (fun M91 I92 q93 K94 R95 A96 V97 => ?_)
        have z98 := (V97 32 (by decide)).trans z82
        have K99 : ∀ i : Nat, i < 880 → 0 ≤ ra M91 o0 8 i := (by have e9 := ((sA_f A96 (by decide)) : sA [8] _ _ _) 8 rfl; rw [e9]; exact K83)
        clear z82
        refine mv_aload_n d_TrustDeskModel_counts_62 rfl rfl ?_
        refine mv_iload_n d_TrustDeskModel_counts_63 rfl rfl ?_
        refine tr_putR (k := 69) I92 R95 t81 rfl ⟨_, rfl⟩ (fun _ h => by cases h) rfl (fun lo hi h => by cases h) (Or.inl (by decide)) d_TrustDeskModel_counts_64 p_TrustDeskModel_571_13 rfl rfl (fun M100 I101 q102 K103 R104 A105 V106 => ?_)
        have z107 := (V106 32 (by decide)).trans z98
        have K108 : ∀ i : Nat, i < 880 → 0 ≤ ra M100 o0 8 i := (by have e9 := ((sA_f A105 (by decide)) : sA [8] _ _ _) 8 rfl; rw [e9]; exact K99)
        clear z98
        refine mv_iconst (v := 0) d_TrustDeskModel_counts_67 (by decide) ?_
        refine mv_istore (lv' := [(5, .int 0), (3, .long v79), (0, .ref o0), (1, .int x1), (2, .int x2)]) d_TrustDeskModel_counts_68 (by decide) rfl ?_
        have L70_109 : ∀ (k : Nat) (i5_109 : Int32) (T_109 : tm_H) (M_109 : mj_M) (n_109 : Nat), tm_I tm_FT (tm_in w_TrustDeskModel_counts_q5_x) x9 T0 M0 n0 T_109 M_109 n_109 → T_109 o0 = some (0, 13, 0) → 0 ≤ i5_109.toInt → (rI M_109 o0) → (∀ i : Nat, i < 880 → 0 ≤ ra M_109 o0 8 i) → 2147483647 - i5_109.toInt < (k : Int) → mj_V g l kY_TrustDeskModel_counts (d + 8) 70 [(5, .int i5_109), (3, .long v79), (0, .ref o0), (1, .int x1), (2, .int x2)] [] M_109 n_109 0 0 (tm_Q tm_FT (tm_in w_TrustDeskModel_counts_q5_x) x9 T0 M0 n0 (fun r _ M => r = none ∧ rI M o0)) := by
          intro k109
          induction k109 with
          | zero =>
            intro i5_109 T_109 M_109 n_109 I_109 h_q0_109 iv0_109 kKR_109 kK8_109 hk109
            have := mz_hi i5_109
            have := kKR_109.1 15 _ _ rfl
            have := kKR_109.1 16 _ _ rfl
            have := kKR_109.1 19 _ _ rfl
            omega
          | succ k109 ih109 =>
            intro i5_109 T_109 M_109 n_109 I_109 h_q0_109 iv0_109 kKR_109 kK8_109 hk109
            refine mv_iload d_TrustDeskModel_counts_70 rfl ?_
            refine mv_bipush (v := 12) d_TrustDeskModel_counts_72 (by decide) ?_
            have := mz_hi i5_109
            refine mv_icmp_geZ (tgt := 97) (a := i5_109.toInt) (b := 12) d_TrustDeskModel_counts_74 (by decide) rfl (by decide) (fun b110 => ?_) (fun b110 => ?_)
            · exact mv_vret d_TrustDeskModel_counts_97 rfl ⟨_, I_109, rfl, kKR_109⟩
            · refine mv_aload_n d_TrustDeskModel_counts_77 rfl rfl ?_
              obtain ⟨a112, q111, t_a112⟩ := tm_atR I_109 h_q0_109 (k := 65) rfl
              refine tr_getK q111 d_TrustDeskModel_counts_78 f_TrustDeskModel_155_13 ?_
              refine mv_iload d_TrustDeskModel_counts_81 rfl ?_
              refine mv_aload_n d_TrustDeskModel_counts_83 rfl rfl ?_
              obtain ⟨a114, q113, t_a114⟩ := tm_atR I_109 h_q0_109 (k := 64) rfl
              refine tr_getK q113 d_TrustDeskModel_counts_84 f_TrustDeskModel_152_13 ?_
              refine mv_iload d_TrustDeskModel_counts_87 rfl ?_
              refine tr_ialdR (o := o0) (k := 64) I_109 q113 t_a114 (by decide) d_TrustDeskModel_counts_89 (vp_in_iff.mpr (by have := kKR_109.1 32 _ _ rfl; omega)) (fun v115 e116 => ?_)
              refine tr_iastR (k := 65) I_109 kKR_109 (I_109.up h_o0) q111 t_a112 (by decide) (by decide) (fun lo hi h => by cases h) (Or.inl (by decide)) d_TrustDeskModel_counts_90 (vp_in_iff.mpr (by have := kKR_109.1 32 _ _ rfl; omega)) (fun M117 I118 K119 R120 E121 A122 V123 => ?_)
              have z124 := (V123 32)
              have K125 : ∀ i : Nat, i < 880 → 0 ≤ ra M117 o0 8 i := (by have e9 := ((sA_a A122 (by decide +kernel)) : sA [8] _ _ _) 8 rfl; rw [e9]; exact kK8_109)
              refine mv_iinc (v := (i5_109 + 1)) (lv' := [(5, .int (i5_109 + 1)), (3, .long v79), (0, .ref o0), (1, .int x1), (2, .int x2)]) d_TrustDeskModel_counts_91 rfl rfl (by decide) rfl ?_
              refine mv_goto (tgt := 70) d_TrustDeskModel_counts_94 (by decide) ?_
              have b126 : (i5_109 + 1 : Int32).toInt = (i5_109.toInt + 1) := mz_add2 rfl (by decide) (by have := R120.1 32 _ _ rfl; omega) (by have := R120.1 32 _ _ rfl; omega)
              have b127 : (i5_109 + 1).toInt = i5_109.toInt + 1 := mz_addn 1 1 (by decide) (by have := mz_lo i5_109; omega) (by have := mz_hi i5_109; omega)
              exact (ih109 (i5_109 + 1) T_109 M117 n_109 I118 h_q0_109 (by have := R120.1 32 _ _ rfl; first | omega | decide | exact fun h9 => absurd (by decide) h9) R120 K125 (by have := R120.1 32 _ _ rfl; omega))
        have : (0 : Int32).toInt = 0 := by decide
        exact mv_less (Nat.zero_le _) (Nat.zero_le _) (L70_109 4294967296 0 T75 M100 n74 I101 t81 (by have := R104.1 32 _ _ rfl; first | omega | decide | exact fun h9 => absurd (by decide) h9) R104 K108 (by show (2147483647 - (0 : Int) : Int) < _; decide))
      · refine mv_lload_n d_TrustDeskModel_counts_30 rfl rfl ?_
        refine mv_aload_n d_TrustDeskModel_counts_31 rfl rfl ?_
        obtain ⟨v129, q128⟩ := tm_atL I77 t81 (k := 68) rfl
        refine tr_getK q128 d_TrustDeskModel_counts_32 f_TrustDeskModel_574_13 ?_
        refine mv_lgtZ (tgt := 56) (a := v79.toInt) (b := v129.toInt) d_TrustDeskModel_counts_35 d_TrustDeskModel_counts_36 (by decide) rfl rfl (fun b130 => ?_) (fun b130 => ?_)
        · exact mv_vret d_TrustDeskModel_counts_56 rfl ⟨_, I77, rfl, R80⟩
        · refine mv_lload_n d_TrustDeskModel_counts_39 rfl rfl ?_
          refine mv_aload_n d_TrustDeskModel_counts_40 rfl rfl ?_
          refine tr_getK (k := 68) q128 d_TrustDeskModel_counts_41 f_TrustDeskModel_574_13 ?_
          refine mv_lneZ (tgt := 57) (a := v79.toInt) (b := v129.toInt) d_TrustDeskModel_counts_44 d_TrustDeskModel_counts_45 (by decide) rfl rfl (fun b131 => ?_) (fun b131 => ?_)
          · refine mv_aload_n d_TrustDeskModel_counts_57 rfl rfl ?_
            refine mv_lload_n d_TrustDeskModel_counts_58 rfl rfl ?_
            refine tr_putR (k := 68) I77 R80 t81 rfl ⟨_, rfl⟩ (fun _ h => by cases h) rfl (fun lo hi h => by cases h) (Or.inl (by decide)) d_TrustDeskModel_counts_59 p_TrustDeskModel_574_13 rfl rfl (fun M132 I133 q134 K135 R136 A137 V138 => ?_)
            have z139 := (V138 32 (by decide)).trans z82
            have K140 : ∀ i : Nat, i < 880 → 0 ≤ ra M132 o0 8 i := (by have e9 := ((sA_f A137 (by decide)) : sA [8] _ _ _) 8 rfl; rw [e9]; exact K83)
            clear z82
            refine mv_aload_n d_TrustDeskModel_counts_62 rfl rfl ?_
            refine mv_iload_n d_TrustDeskModel_counts_63 rfl rfl ?_
            refine tr_putR (k := 69) I133 R136 t81 rfl ⟨_, rfl⟩ (fun _ h => by cases h) rfl (fun lo hi h => by cases h) (Or.inl (by decide)) d_TrustDeskModel_counts_64 p_TrustDeskModel_571_13 rfl rfl (fun M141 I142 q143 K144 R145 A146 V147 => ?_)
            have z148 := (V147 32 (by decide)).trans z139
            have K149 : ∀ i : Nat, i < 880 → 0 ≤ ra M141 o0 8 i := (by have e9 := ((sA_f A146 (by decide)) : sA [8] _ _ _) 8 rfl; rw [e9]; exact K140)
            clear z139
            refine mv_iconst (v := 0) d_TrustDeskModel_counts_67 (by decide) ?_
            refine mv_istore (lv' := [(5, .int 0), (3, .long v79), (0, .ref o0), (1, .int x1), (2, .int x2)]) d_TrustDeskModel_counts_68 (by decide) rfl ?_
            have L70_150 : ∀ (k : Nat) (i5_150 : Int32) (T_150 : tm_H) (M_150 : mj_M) (n_150 : Nat), tm_I tm_FT (tm_in w_TrustDeskModel_counts_q5_x) x9 T0 M0 n0 T_150 M_150 n_150 → T_150 o0 = some (0, 13, 0) → 0 ≤ i5_150.toInt → (rI M_150 o0) → (∀ i : Nat, i < 880 → 0 ≤ ra M_150 o0 8 i) → 2147483647 - i5_150.toInt < (k : Int) → mj_V g l kY_TrustDeskModel_counts (d + 8) 70 [(5, .int i5_150), (3, .long v79), (0, .ref o0), (1, .int x1), (2, .int x2)] [] M_150 n_150 0 0 (tm_Q tm_FT (tm_in w_TrustDeskModel_counts_q5_x) x9 T0 M0 n0 (fun r _ M => r = none ∧ rI M o0)) := by
              intro k150
              induction k150 with
              | zero =>
                intro i5_150 T_150 M_150 n_150 I_150 h_q0_150 iv0_150 kKR_150 kK8_150 hk150
                have := mz_hi i5_150
                have := kKR_150.1 15 _ _ rfl
                have := kKR_150.1 16 _ _ rfl
                have := kKR_150.1 19 _ _ rfl
                omega
              | succ k150 ih150 =>
                intro i5_150 T_150 M_150 n_150 I_150 h_q0_150 iv0_150 kKR_150 kK8_150 hk150
                refine mv_iload d_TrustDeskModel_counts_70 rfl ?_
                refine mv_bipush (v := 12) d_TrustDeskModel_counts_72 (by decide) ?_
                have := mz_hi i5_150
                refine mv_icmp_geZ (tgt := 97) (a := i5_150.toInt) (b := 12) d_TrustDeskModel_counts_74 (by decide) rfl (by decide) (fun b151 => ?_) (fun b151 => ?_)
                · exact mv_vret d_TrustDeskModel_counts_97 rfl ⟨_, I_150, rfl, kKR_150⟩
                · refine mv_aload_n d_TrustDeskModel_counts_77 rfl rfl ?_
                  obtain ⟨a153, q152, t_a153⟩ := tm_atR I_150 h_q0_150 (k := 65) rfl
                  refine tr_getK q152 d_TrustDeskModel_counts_78 f_TrustDeskModel_155_13 ?_
                  refine mv_iload d_TrustDeskModel_counts_81 rfl ?_
                  refine mv_aload_n d_TrustDeskModel_counts_83 rfl rfl ?_
                  obtain ⟨a155, q154, t_a155⟩ := tm_atR I_150 h_q0_150 (k := 64) rfl
                  refine tr_getK q154 d_TrustDeskModel_counts_84 f_TrustDeskModel_152_13 ?_
                  refine mv_iload d_TrustDeskModel_counts_87 rfl ?_
                  refine tr_ialdR (o := o0) (k := 64) I_150 q154 t_a155 (by decide) d_TrustDeskModel_counts_89 (vp_in_iff.mpr (by have := kKR_150.1 32 _ _ rfl; omega)) (fun v156 e157 => ?_)
                  refine tr_iastR (k := 65) I_150 kKR_150 (I_150.up h_o0) q152 t_a153 (by decide) (by decide) (fun lo hi h => by cases h) (Or.inl (by decide)) d_TrustDeskModel_counts_90 (vp_in_iff.mpr (by have := kKR_150.1 32 _ _ rfl; omega)) (fun M158 I159 K160 R161 E162 A163 V164 => ?_)
                  have z165 := (V164 32)
                  have K166 : ∀ i : Nat, i < 880 → 0 ≤ ra M158 o0 8 i := (by have e9 := ((sA_a A163 (by decide +kernel)) : sA [8] _ _ _) 8 rfl; rw [e9]; exact kK8_150)
                  refine mv_iinc (v := (i5_150 + 1)) (lv' := [(5, .int (i5_150 + 1)), (3, .long v79), (0, .ref o0), (1, .int x1), (2, .int x2)]) d_TrustDeskModel_counts_91 rfl rfl (by decide) rfl ?_
                  refine mv_goto (tgt := 70) d_TrustDeskModel_counts_94 (by decide) ?_
                  have b167 : (i5_150 + 1 : Int32).toInt = (i5_150.toInt + 1) := mz_add2 rfl (by decide) (by have := R161.1 32 _ _ rfl; omega) (by have := R161.1 32 _ _ rfl; omega)
                  have b168 : (i5_150 + 1).toInt = i5_150.toInt + 1 := mz_addn 1 1 (by decide) (by have := mz_lo i5_150; omega) (by have := mz_hi i5_150; omega)
                  exact (ih150 (i5_150 + 1) T_150 M158 n_150 I159 h_q0_150 (by have := R161.1 32 _ _ rfl; first | omega | decide | exact fun h9 => absurd (by decide) h9) R161 K166 (by have := R161.1 32 _ _ rfl; omega))
            have : (0 : Int32).toInt = 0 := by decide
            exact mv_less (Nat.zero_le _) (Nat.zero_le _) (L70_150 4294967296 0 T75 M141 n74 I142 t81 (by have := R145.1 32 _ _ rfl; first | omega | decide | exact fun h9 => absurd (by decide) h9) R145 K149 (by show (2147483647 - (0 : Int) : Int) < _; decide))
          · refine mv_iload_n d_TrustDeskModel_counts_48 rfl rfl ?_
            refine mv_aload_n d_TrustDeskModel_counts_49 rfl rfl ?_
            refine tr_getK (k := 69) q88 d_TrustDeskModel_counts_50 f_TrustDeskModel_571_13 ?_
            have := mz_hi x2
            have := mz_hi v89
            refine mv_icmp_ltZ (tgt := 57) (a := x2.toInt) (b := v89.toInt) d_TrustDeskModel_counts_53 (by decide) rfl rfl (fun b169 => ?_) (fun b169 => ?_)
            · refine mv_aload_n d_TrustDeskModel_counts_57 rfl rfl ?_
              refine mv_lload_n d_TrustDeskModel_counts_58 rfl rfl ?_
              refine tr_putR (k := 68) I77 R80 t81 rfl ⟨_, rfl⟩ (fun _ h => by cases h) rfl (fun lo hi h => by cases h) (Or.inl (by decide)) d_TrustDeskModel_counts_59 p_TrustDeskModel_574_13 rfl rfl (fun M170 I171 q172 K173 R174 A175 V176 => ?_)
              have z177 := (V176 32 (by decide)).trans z82
              have K178 : ∀ i : Nat, i < 880 → 0 ≤ ra M170 o0 8 i := (by have e9 := ((sA_f A175 (by decide)) : sA [8] _ _ _) 8 rfl; rw [e9]; exact K83)
              clear z82
              refine mv_aload_n d_TrustDeskModel_counts_62 rfl rfl ?_
              refine mv_iload_n d_TrustDeskModel_counts_63 rfl rfl ?_
              refine tr_putR (k := 69) I171 R174 t81 rfl ⟨_, rfl⟩ (fun _ h => by cases h) rfl (fun lo hi h => by cases h) (Or.inl (by decide)) d_TrustDeskModel_counts_64 p_TrustDeskModel_571_13 rfl rfl (fun M179 I180 q181 K182 R183 A184 V185 => ?_)
              have z186 := (V185 32 (by decide)).trans z177
              have K187 : ∀ i : Nat, i < 880 → 0 ≤ ra M179 o0 8 i := (by have e9 := ((sA_f A184 (by decide)) : sA [8] _ _ _) 8 rfl; rw [e9]; exact K178)
              clear z177
              refine mv_iconst (v := 0) d_TrustDeskModel_counts_67 (by decide) ?_
              refine mv_istore (lv' := [(5, .int 0), (3, .long v79), (0, .ref o0), (1, .int x1), (2, .int x2)]) d_TrustDeskModel_counts_68 (by decide) rfl ?_
              have L70_188 : ∀ (k : Nat) (i5_188 : Int32) (T_188 : tm_H) (M_188 : mj_M) (n_188 : Nat), tm_I tm_FT (tm_in w_TrustDeskModel_counts_q5_x) x9 T0 M0 n0 T_188 M_188 n_188 → T_188 o0 = some (0, 13, 0) → 0 ≤ i5_188.toInt → (rI M_188 o0) → (∀ i : Nat, i < 880 → 0 ≤ ra M_188 o0 8 i) → 2147483647 - i5_188.toInt < (k : Int) → mj_V g l kY_TrustDeskModel_counts (d + 8) 70 [(5, .int i5_188), (3, .long v79), (0, .ref o0), (1, .int x1), (2, .int x2)] [] M_188 n_188 0 0 (tm_Q tm_FT (tm_in w_TrustDeskModel_counts_q5_x) x9 T0 M0 n0 (fun r _ M => r = none ∧ rI M o0)) := by
                intro k188
                induction k188 with
                | zero =>
                  intro i5_188 T_188 M_188 n_188 I_188 h_q0_188 iv0_188 kKR_188 kK8_188 hk188
                  have := mz_hi i5_188
                  have := kKR_188.1 15 _ _ rfl
                  have := kKR_188.1 16 _ _ rfl
                  have := kKR_188.1 19 _ _ rfl
                  omega
                | succ k188 ih188 =>
                  intro i5_188 T_188 M_188 n_188 I_188 h_q0_188 iv0_188 kKR_188 kK8_188 hk188
                  refine mv_iload d_TrustDeskModel_counts_70 rfl ?_
                  refine mv_bipush (v := 12) d_TrustDeskModel_counts_72 (by decide) ?_
                  have := mz_hi i5_188
                  refine mv_icmp_geZ (tgt := 97) (a := i5_188.toInt) (b := 12) d_TrustDeskModel_counts_74 (by decide) rfl (by decide) (fun b189 => ?_) (fun b189 => ?_)
                  · exact mv_vret d_TrustDeskModel_counts_97 rfl ⟨_, I_188, rfl, kKR_188⟩
                  · refine mv_aload_n d_TrustDeskModel_counts_77 rfl rfl ?_
                    obtain ⟨a191, q190, t_a191⟩ := tm_atR I_188 h_q0_188 (k := 65) rfl
                    refine tr_getK q190 d_TrustDeskModel_counts_78 f_TrustDeskModel_155_13 ?_
                    refine mv_iload d_TrustDeskModel_counts_81 rfl ?_
                    refine mv_aload_n d_TrustDeskModel_counts_83 rfl rfl ?_
                    obtain ⟨a193, q192, t_a193⟩ := tm_atR I_188 h_q0_188 (k := 64) rfl
                    refine tr_getK q192 d_TrustDeskModel_counts_84 f_TrustDeskModel_152_13 ?_
                    refine mv_iload d_TrustDeskModel_counts_87 rfl ?_
                    refine tr_ialdR (o := o0) (k := 64) I_188 q192 t_a193 (by decide) d_TrustDeskModel_counts_89 (vp_in_iff.mpr (by have := kKR_188.1 32 _ _ rfl; omega)) (fun v194 e195 => ?_)
                    refine tr_iastR (k := 65) I_188 kKR_188 (I_188.up h_o0) q190 t_a191 (by decide) (by decide) (fun lo hi h => by cases h) (Or.inl (by decide)) d_TrustDeskModel_counts_90 (vp_in_iff.mpr (by have := kKR_188.1 32 _ _ rfl; omega)) (fun M196 I197 K198 R199 E200 A201 V202 => ?_)
                    have z203 := (V202 32)
                    have K204 : ∀ i : Nat, i < 880 → 0 ≤ ra M196 o0 8 i := (by have e9 := ((sA_a A201 (by decide +kernel)) : sA [8] _ _ _) 8 rfl; rw [e9]; exact kK8_188)
                    refine mv_iinc (v := (i5_188 + 1)) (lv' := [(5, .int (i5_188 + 1)), (3, .long v79), (0, .ref o0), (1, .int x1), (2, .int x2)]) d_TrustDeskModel_counts_91 rfl rfl (by decide) rfl ?_
                    refine mv_goto (tgt := 70) d_TrustDeskModel_counts_94 (by decide) ?_
                    have b205 : (i5_188 + 1 : Int32).toInt = (i5_188.toInt + 1) := mz_add2 rfl (by decide) (by have := R199.1 32 _ _ rfl; omega) (by have := R199.1 32 _ _ rfl; omega)
                    have b206 : (i5_188 + 1).toInt = i5_188.toInt + 1 := mz_addn 1 1 (by decide) (by have := mz_lo i5_188; omega) (by have := mz_hi i5_188; omega)
                    exact (ih188 (i5_188 + 1) T_188 M196 n_188 I197 h_q0_188 (by have := R199.1 32 _ _ rfl; first | omega | decide | exact fun h9 => absurd (by decide) h9) R199 K204 (by have := R199.1 32 _ _ rfl; omega))
              have : (0 : Int32).toInt = 0 := by decide
              exact mv_less (Nat.zero_le _) (Nat.zero_le _) (L70_188 4294967296 0 T75 M179 n74 I180 t81 (by have := R183.1 32 _ _ rfl; first | omega | decide | exact fun h9 => absurd (by decide) h9) R183 K187 (by show (2147483647 - (0 : Int) : Int) < _; decide))
            · exact mv_vret d_TrustDeskModel_counts_56 rfl ⟨_, I77, rfl, R80⟩
def w_TrustDeskModel_counts_q6_x : List Nat := [1368, 1369, 20064, 20065]
set_option maxHeartbeats 100000000 in theorem tc_TrustDeskModel_counts_q6_x {g : mj_G} {l : Launch} {d : Nat} {T0 : tm_H} {M0 : mj_M} {n0 x9 : Nat} {o0 : Nat} {x1 : Int32} {x2 : Int32} (h_o0 : T0 o0 = some (0, 13, 0)) (yR : rI M0 o0) (y8 : ∀ i : Nat, i < 880 → 0 ≤ ra M0 o0 8 i) (yl : 6 ≤ x1.toInt ∧ x1.toInt ≤ rv M0 o0 32 ∧ 0 ≤ x2.toInt ∧ x2.toInt ≤ x1.toInt) (I0 : tm_I tm_FT (tm_in w_TrustDeskModel_counts_q6_x) x9 T0 M0 n0 T0 M0 n0) : mj_Met g l kY_TrustDeskModel_counts (d + 9) [.ref o0, .int x1, .int x2] M0 n0 0 0 (tm_Q tm_FT (tm_in w_TrustDeskModel_counts_q6_x) x9 T0 M0 n0 (fun r _ M => r = none ∧ rI M o0)) := by
  refine mj_enter (by decide) (Nat.le_of_ble_eq_true rfl) ?_
  have K1 : ∀ i : Nat, i < 880 → 0 ≤ ra M0 o0 8 i := y8
  refine mv_iload_n d_TrustDeskModel_counts_0 rfl rfl ?_
  refine mv_aload_n d_TrustDeskModel_counts_1 rfl rfl ?_
  obtain ⟨v3, q2⟩ := tm_atI I0 h_o0 (k := 32) rfl
  refine tr_getK q2 d_TrustDeskModel_counts_2 f_TrustDeskModel_415_13 ?_
  have := yR.f (k := 32) q2 rfl
  have := tm_rv q2
  have := mz_hi x1
  have := mz_hi v3
  refine mv_icmp_neZ (tgt := 98) (a := x1.toInt) (b := v3.toInt) d_TrustDeskModel_counts_5 (by decide) rfl rfl (fun b4 => ?_) (fun b4 => ?_)
  · refine mv_aload_n d_TrustDeskModel_counts_98 rfl rfl ?_
    obtain ⟨v6, q5⟩ := tm_atI I0 h_o0 (k := 67) rfl
    refine tr_getK q5 d_TrustDeskModel_counts_99 f_TrustDeskModel_560_13 ?_
    refine mv_iload_n d_TrustDeskModel_counts_102 rfl rfl ?_
    refine mv_ishr d_TrustDeskModel_counts_103 ?_
    refine mv_iconst (v := 1) d_TrustDeskModel_counts_104 (by decide) ?_
    refine mv_iand d_TrustDeskModel_counts_105 ?_
    have := mz_hi ((v6 >>> (x1 &&& 31)) &&& 1)
    refine mv_if_neZ (tgt := 118) (a := ((v6 >>> (x1 &&& 31)) &&& 1).toInt) d_TrustDeskModel_counts_106 (by decide) rfl (fun b7 => ?_) (fun b7 => ?_)
    · refine mv_iconst (v := 0) d_TrustDeskModel_counts_118 (by decide) ?_
      refine mv_istore_n (lv' := [(3, .int 0), (0, .ref o0), (1, .int x1), (2, .int x2)]) d_TrustDeskModel_counts_119 rfl (by decide) rfl ?_
      have L120_8 : ∀ (k : Nat) (i3_8 : Int32) (T_8 : tm_H) (M_8 : mj_M) (n_8 : Nat), tm_I tm_FT (tm_in w_TrustDeskModel_counts_q6_x) x9 T0 M0 n0 T_8 M_8 n_8 → T_8 o0 = some (0, 13, 0) → 0 ≤ i3_8.toInt → rv M_8 o0 32 = rv M0 o0 32 → (rI M_8 o0) → (∀ i : Nat, i < 880 → 0 ≤ ra M_8 o0 8 i) → 2147483647 - i3_8.toInt < (k : Int) → mj_V g l kY_TrustDeskModel_counts (d + 9) 120 [(3, .int i3_8), (0, .ref o0), (1, .int x1), (2, .int x2)] [] M_8 n_8 0 0 (tm_Q tm_FT (tm_in w_TrustDeskModel_counts_q6_x) x9 T0 M0 n0 (fun r _ M => r = none ∧ rI M o0)) := by
        intro k8
        induction k8 with
        | zero =>
          intro i3_8 T_8 M_8 n_8 I_8 h_q0_8 iv0_8 iv1_8 kKR_8 kK8_8 hk8
          have := mz_hi i3_8
          have := kKR_8.1 15 _ _ rfl
          have := kKR_8.1 16 _ _ rfl
          have := kKR_8.1 19 _ _ rfl
          omega
        | succ k8 ih8 =>
          intro i3_8 T_8 M_8 n_8 I_8 h_q0_8 iv0_8 iv1_8 kKR_8 kK8_8 hk8
          refine mv_iload_n d_TrustDeskModel_counts_120 rfl rfl ?_
          refine mv_iload_n d_TrustDeskModel_counts_121 rfl rfl ?_
          have := mz_hi i3_8
          have := mz_hi x2
          refine mv_icmp_gtZ (tgt := 163) (a := i3_8.toInt) (b := x2.toInt) d_TrustDeskModel_counts_122 (by decide) rfl rfl (fun b9 => ?_) (fun b9 => ?_)
          · exact mv_vret d_TrustDeskModel_counts_163 rfl ⟨_, I_8, rfl, kKR_8⟩
          · refine mv_iload_n d_TrustDeskModel_counts_125 rfl rfl ?_
            refine mv_bipush (v := 8) d_TrustDeskModel_counts_126 (by decide) ?_
            have := mz_hi i3_8
            refine mv_icmp_geZ (tgt := 163) (a := i3_8.toInt) (b := 8) d_TrustDeskModel_counts_128 (by decide) rfl (by decide) (fun b10 => ?_) (fun b10 => ?_)
            · exact mv_vret d_TrustDeskModel_counts_163 rfl ⟨_, I_8, rfl, kKR_8⟩
            · refine mv_aload_n d_TrustDeskModel_counts_131 rfl rfl ?_
              obtain ⟨a12, q11, t_a12⟩ := tm_atR I_8 h_q0_8 (k := 64) rfl
              refine tr_getK q11 d_TrustDeskModel_counts_132 f_TrustDeskModel_152_13 ?_
              refine mv_iload_n d_TrustDeskModel_counts_135 rfl rfl ?_
              refine mv_iload_n d_TrustDeskModel_counts_136 rfl rfl ?_
              refine tr_iastR (k := 64) I_8 kKR_8 (I_8.up h_o0) q11 t_a12 (by decide) (by decide) (fun lo hi h => by cases h) (Or.inl (by decide)) d_TrustDeskModel_counts_137 (vp_in_iff.mpr (by have := kKR_8.1 32 _ _ rfl; omega)) (fun M13 I14 K15 R16 E17 A18 V19 => ?_)
              have z20 := (V19 32)
              have K21 : ∀ i : Nat, i < 880 → 0 ≤ ra M13 o0 8 i := (by have e9 := ((sA_a A18 (by decide +kernel)) : sA [8] _ _ _) 8 rfl; rw [e9]; exact kK8_8)
              refine mv_aload_n d_TrustDeskModel_counts_138 rfl rfl ?_
              refine mv_iload_n d_TrustDeskModel_counts_139 rfl rfl ?_
              refine mv_iconst (v := 1) d_TrustDeskModel_counts_140 (by decide) ?_
              refine mv_iadd d_TrustDeskModel_counts_141 ?_
              refine mv_iload_n d_TrustDeskModel_counts_142 rfl rfl ?_
              refine mv_iload_n d_TrustDeskModel_counts_143 rfl rfl ?_
              have := mz_hi i3_8
              have := mz_hi x2
              refine mv_icmp_neZ (tgt := 153) (a := i3_8.toInt) (b := x2.toInt) d_TrustDeskModel_counts_144 (by decide) rfl rfl (fun b22 => ?_) (fun b22 => ?_)
              · refine mv_iload_n d_TrustDeskModel_counts_153 rfl rfl ?_
                obtain ⟨_, b29, -⟩ := I14.1 _ _ h_q0_8
                have b30 : (x1 + 1 : Int32).toInt = (x1.toInt + 1) := mz_add2 rfl (by decide) (by have := R16.1 32 _ _ rfl; omega) (by have := R16.1 32 _ _ rfl; omega)
                refine mv_callV (kc' := 0) (ks' := 0) (As := [.int (x1 + 1), .int x2]) (st9 := [.int x2, .int (x1 + 1), .ref o0]) d_TrustDeskModel_counts_154 lV_TrustDeskModel_578 b29 rfl (tc_TrustDeskModel_counts_q5_x (d := d) (x9 := x9) (o0 := o0) (x1 := (x1 + 1)) (x2 := x2) h_q0_8 R16 K21 (by have := R16.1 32 _ _ rfl; omega) I14.start) rfl (Nat.le_of_ble_eq_true rfl) (Nat.le_of_ble_eq_true rfl) (Nat.le_of_ble_eq_true rfl) (hst := rfl) (fun b23r M24 n25 b23 => ?_)
                obtain ⟨T26, J27, rfl, R31⟩ := b23
                have I28 := I14.call J27 (tm_sub (by decide)) (Or.inl rfl)
                have t32 := J27.up h_q0_8
                have z33 := (rv_c I14 J27 (I14.up h_o0) (k := 32) rfl).trans z20
                have K34 : ∀ i : Nat, i < 880 → 0 ≤ ra M24 o0 8 i := (by have e9 := ((sA_c I14 J27 (I14.up h_o0) (by decide +kernel)) : sA [8] _ _ _) 8 rfl; rw [e9]; exact K21)
                clear z20
                have q35 := J27.keep h_q0_8 (by decide) (K15 _ 13 64 _ q11)
                have t36 := J27.up t_a12
                refine mv_iinc (v := (i3_8 + 1)) (lv' := [(3, .int (i3_8 + 1)), (0, .ref o0), (1, .int x1), (2, .int x2)]) d_TrustDeskModel_counts_157 rfl rfl (by decide) rfl ?_
                refine mv_goto (tgt := 120) d_TrustDeskModel_counts_160 (by decide) ?_
                have b37 : (i3_8 + 1 : Int32).toInt = (i3_8.toInt + 1) := mz_add2 rfl (by decide) (by have := R31.1 32 _ _ rfl; omega) (by have := R31.1 32 _ _ rfl; omega)
                have b38 : (i3_8 + 1).toInt = i3_8.toInt + 1 := mz_addn 1 1 (by decide) (by have := mz_lo i3_8; omega) (by have := mz_hi i3_8; omega)
                exact (ih8 (i3_8 + 1) T26 M24 n25 I28 t32 (by have := R31.1 32 _ _ rfl; first | omega | decide | exact fun h9 => absurd (by decide) h9) (by have := R31.1 32 _ _ rfl; first | omega | decide | exact fun h9 => absurd (by decide) h9) R31 K34 (by have := R31.1 32 _ _ rfl; omega))
              · refine mv_iload_n d_TrustDeskModel_counts_147 rfl rfl ?_
                refine mv_iconst (v := 1) d_TrustDeskModel_counts_148 (by decide) ?_
                refine mv_iadd d_TrustDeskModel_counts_149 ?_
                refine mv_goto (tgt := 154) d_TrustDeskModel_counts_150 (by decide) ?_
                obtain ⟨_, b45, -⟩ := I14.1 _ _ h_q0_8
                have b46 : (x1 + 1 : Int32).toInt = (x1.toInt + 1) := mz_add2 rfl (by decide) (by have := R16.1 32 _ _ rfl; omega) (by have := R16.1 32 _ _ rfl; omega)
                have b47 : (x2 + 1 : Int32).toInt = (x2.toInt + 1) := mz_add2 rfl (by decide) (by have := R16.1 32 _ _ rfl; omega) (by have := R16.1 32 _ _ rfl; omega)
                refine mv_callV (kc' := 0) (ks' := 0) (As := [.int (x1 + 1), .int (x2 + 1)]) (st9 := [.int (x2 + 1), .int (x1 + 1), .ref o0]) d_TrustDeskModel_counts_154 lV_TrustDeskModel_578 b45 rfl (tc_TrustDeskModel_counts_q5_x (d := d) (x9 := x9) (o0 := o0) (x1 := (x1 + 1)) (x2 := (x2 + 1)) h_q0_8 R16 K21 (by have := R16.1 32 _ _ rfl; omega) I14.start) rfl (Nat.le_of_ble_eq_true rfl) (Nat.le_of_ble_eq_true rfl) (Nat.le_of_ble_eq_true rfl) (hst := rfl) (fun b39r M40 n41 b39 => ?_)
                obtain ⟨T42, J43, rfl, R48⟩ := b39
                have I44 := I14.call J43 (tm_sub (by decide)) (Or.inl rfl)
                have t49 := J43.up h_q0_8
                have z50 := (rv_c I14 J43 (I14.up h_o0) (k := 32) rfl).trans z20
                have K51 : ∀ i : Nat, i < 880 → 0 ≤ ra M40 o0 8 i := (by have e9 := ((sA_c I14 J43 (I14.up h_o0) (by decide +kernel)) : sA [8] _ _ _) 8 rfl; rw [e9]; exact K21)
                clear z20
                have q52 := J43.keep h_q0_8 (by decide) (K15 _ 13 64 _ q11)
                have t53 := J43.up t_a12
                refine mv_iinc (v := (i3_8 + 1)) (lv' := [(3, .int (i3_8 + 1)), (0, .ref o0), (1, .int x1), (2, .int x2)]) d_TrustDeskModel_counts_157 rfl rfl (by decide) rfl ?_
                refine mv_goto (tgt := 120) d_TrustDeskModel_counts_160 (by decide) ?_
                have b54 : (i3_8 + 1 : Int32).toInt = (i3_8.toInt + 1) := mz_add2 rfl (by decide) (by have := R48.1 32 _ _ rfl; omega) (by have := R48.1 32 _ _ rfl; omega)
                have b55 : (i3_8 + 1).toInt = i3_8.toInt + 1 := mz_addn 1 1 (by decide) (by have := mz_lo i3_8; omega) (by have := mz_hi i3_8; omega)
                exact (ih8 (i3_8 + 1) T42 M40 n41 I44 t49 (by have := R48.1 32 _ _ rfl; first | omega | decide | exact fun h9 => absurd (by decide) h9) (by have := R48.1 32 _ _ rfl; first | omega | decide | exact fun h9 => absurd (by decide) h9) R48 K51 (by have := R48.1 32 _ _ rfl; omega))
      have : (0 : Int32).toInt = 0 := by decide
      exact mv_less (Nat.zero_le _) (Nat.zero_le _) (L120_8 4294967296 0 T0 M0 n0 I0 h_o0 (by have := yR.1 32 _ _ rfl; first | omega | decide | exact fun h9 => absurd (by decide) h9) (by have := yR.1 32 _ _ rfl; first | omega | decide | exact fun h9 => absurd (by decide) h9) yR K1 (by show (2147483647 - (0 : Int) : Int) < _; decide))
    · refine mv_aload_n d_TrustDeskModel_counts_109 rfl rfl ?_
      refine mv_iload_n d_TrustDeskModel_counts_110 rfl rfl ?_
      refine mv_iconst (v := 1) d_TrustDeskModel_counts_111 (by decide) ?_
      refine mv_iadd d_TrustDeskModel_counts_112 ?_
      refine mv_iload_n d_TrustDeskModel_counts_113 rfl rfl ?_
      obtain ⟨_, b62, -⟩ := I0.1 _ _ h_o0
      have b63 : (x1 + 1 : Int32).toInt = (x1.toInt + 1) := mz_add2 rfl (by decide) (by have := yR.1 32 _ _ rfl; omega) (by have := yR.1 32 _ _ rfl; omega)
      refine mv_callV (kc' := 0) (ks' := 0) (As := [.int (x1 + 1), .int x2]) (st9 := [.int x2, .int (x1 + 1), .ref o0]) d_TrustDeskModel_counts_114 lV_TrustDeskModel_578 b62 rfl (tc_TrustDeskModel_counts_q5_x (d := d) (x9 := x9) (o0 := o0) (x1 := (x1 + 1)) (x2 := x2) h_o0 yR K1 (by have := yR.1 32 _ _ rfl; omega) I0.start) rfl (Nat.le_of_ble_eq_true rfl) (Nat.le_of_ble_eq_true rfl) (Nat.le_of_ble_eq_true rfl) (hst := rfl) (fun b56r M57 n58 b56 => ?_)
      obtain ⟨T59, J60, rfl, R64⟩ := b56
      have I61 := I0.call J60 (tm_sub (by decide)) (Or.inl rfl)
      have t65 := J60.up h_o0
      have z66 := (rv_c I0 J60 (I0.up h_o0) (k := 32) rfl)
      have K67 : ∀ i : Nat, i < 880 → 0 ≤ ra M57 o0 8 i := (by have e9 := ((sA_c I0 J60 (I0.up h_o0) (by decide +kernel)) : sA [8] _ _ _) 8 rfl; rw [e9]; exact K1)
      have q68 := J60.keep h_o0 (by decide) q2
      have q69 := J60.keep h_o0 (by decide) q5
      exact mv_vret d_TrustDeskModel_counts_117 rfl ⟨_, I61, rfl, R64⟩
  · refine mv_aload_n d_TrustDeskModel_counts_8 rfl rfl ?_
    refine mv_aload_n d_TrustDeskModel_counts_9 rfl rfl ?_
    obtain ⟨a71, q70, t_a71⟩ := tm_atR I0 h_o0 (k := 64) rfl
    refine tr_getK q70 d_TrustDeskModel_counts_10 f_TrustDeskModel_152_13 ?_
    obtain ⟨_, b78, -⟩ := I0.1 _ _ h_o0
    refine mv_callV (kc' := 0) (ks' := 0) (As := [.ref a71]) (st9 := [.ref a71, .ref o0]) d_TrustDeskModel_counts_13 lV_TrustDeskModel_567 b78 rfl (tc_TrustDeskModel_idle_q64_x (d := (d + 6)) (x9 := x9) (o0 := o0) (o1 := a71) h_o0 t_a71 yR K1 I0.start) rfl (Nat.le_of_ble_eq_true rfl) (Nat.le_of_ble_eq_true rfl) (Nat.le_of_ble_eq_true rfl) (hst := rfl) (fun b72r M73 n74 b72 => ?_)
    obtain ⟨T75, J76, v79, rfl, R80⟩ := b72
    have I77 := I0.call J76 (tm_sub (by decide)) (Or.inl rfl)
    have t81 := J76.up h_o0
    have z82 := (rv_c I0 J76 (I0.up h_o0) (k := 32) rfl)
    have K83 : ∀ i : Nat, i < 880 → 0 ≤ ra M73 o0 8 i := (by have e9 := ((sA_c I0 J76 (I0.up h_o0) (by decide +kernel)) : sA [8] _ _ _) 8 rfl; rw [e9]; exact K1)
    have q84 := J76.keep h_o0 (by decide) q2
    have q85 := J76.keep h_o0 (by decide) q70
    have t86 := J76.up t_a71
    refine mv_lstore_n (lv' := [(3, .long v79), (0, .ref o0), (1, .int x1), (2, .int x2)]) d_TrustDeskModel_counts_16 rfl (by decide) rfl ?_
    refine mv_lload_n d_TrustDeskModel_counts_17 rfl rfl ?_
    refine mv_lconst (v := 0) d_TrustDeskModel_counts_18 (by decide) ?_
    refine mv_lltZ (tgt := 56) (a := v79.toInt) (b := 0) d_TrustDeskModel_counts_19 d_TrustDeskModel_counts_20 (by decide) rfl (by decide) (fun b87 => ?_) (fun b87 => ?_)
    · exact mv_vret d_TrustDeskModel_counts_56 rfl ⟨_, I77, rfl, R80⟩
    · refine mv_aload_n d_TrustDeskModel_counts_23 rfl rfl ?_
      obtain ⟨v89, q88⟩ := tm_atI I77 t81 (k := 69) rfl
      refine tr_getK q88 d_TrustDeskModel_counts_24 f_TrustDeskModel_571_13 ?_
      have := mz_hi v89
      refine mv_if_eqZ (tgt := 57) (a := v89.toInt) d_TrustDeskModel_counts_27 (by decide) rfl (fun b90 => ?_) (fun b90 => ?_)
      · refine mv_aload_n d_TrustDeskModel_counts_57 rfl rfl ?_
        refine mv_lload_n d_TrustDeskModel_counts_58 rfl rfl ?_
        refine tr_putR (k := 68) I77 R80 t81 rfl ⟨_, rfl⟩ (fun _ h => by cases h) rfl (fun lo hi h => by cases h) (Or.inl (by decide)) d_TrustDeskModel_counts_59 p_TrustDeskModel_574_13 rfl rfl (fun M91 I92 q93 K94 R95 A96 V97 => ?_)
        have z98 := (V97 32 (by decide)).trans z82
        have K99 : ∀ i : Nat, i < 880 → 0 ≤ ra M91 o0 8 i := (by have e9 := ((sA_f A96 (by decide)) : sA [8] _ _ _) 8 rfl; rw [e9]; exact K83)
        clear z82
        refine mv_aload_n d_TrustDeskModel_counts_62 rfl rfl ?_
        refine mv_iload_n d_TrustDeskModel_counts_63 rfl rfl ?_
        refine tr_putR (k := 69) I92 R95 t81 rfl ⟨_, rfl⟩ (fun _ h => by cases h) rfl (fun lo hi h => by cases h) (Or.inl (by decide)) d_TrustDeskModel_counts_64 p_TrustDeskModel_571_13 rfl rfl (fun M100 I101 q102 K103 R104 A105 V106 => ?_)
        have z107 := (V106 32 (by decide)).trans z98
        have K108 : ∀ i : Nat, i < 880 → 0 ≤ ra M100 o0 8 i := (by have e9 := ((sA_f A105 (by decide)) : sA [8] _ _ _) 8 rfl; rw [e9]; exact K99)
        clear z98
        refine mv_iconst (v := 0) d_TrustDeskModel_counts_67 (by decide) ?_
        refine mv_istore (lv' := [(5, .int 0), (3, .long v79), (0, .ref o0), (1, .int x1), (2, .int x2)]) d_TrustDeskModel_counts_68 (by decide) rfl ?_
        have L70_109 : ∀ (k : Nat) (i5_109 : Int32) (T_109 : tm_H) (M_109 : mj_M) (n_109 : Nat), tm_I tm_FT (tm_in w_TrustDeskModel_counts_q6_x) x9 T0 M0 n0 T_109 M_109 n_109 → T_109 o0 = some (0, 13, 0) → 0 ≤ i5_109.toInt → (rI M_109 o0) → (∀ i : Nat, i < 880 → 0 ≤ ra M_109 o0 8 i) → 2147483647 - i5_109.toInt < (k : Int) → mj_V g l kY_TrustDeskModel_counts (d + 9) 70 [(5, .int i5_109), (3, .long v79), (0, .ref o0), (1, .int x1), (2, .int x2)] [] M_109 n_109 0 0 (tm_Q tm_FT (tm_in w_TrustDeskModel_counts_q6_x) x9 T0 M0 n0 (fun r _ M => r = none ∧ rI M o0)) := by
          intro k109
          induction k109 with
          | zero =>
            intro i5_109 T_109 M_109 n_109 I_109 h_q0_109 iv0_109 kKR_109 kK8_109 hk109
            have := mz_hi i5_109
            have := kKR_109.1 15 _ _ rfl
            have := kKR_109.1 16 _ _ rfl
            have := kKR_109.1 19 _ _ rfl
            omega
          | succ k109 ih109 =>
            intro i5_109 T_109 M_109 n_109 I_109 h_q0_109 iv0_109 kKR_109 kK8_109 hk109
            refine mv_iload d_TrustDeskModel_counts_70 rfl ?_
            refine mv_bipush (v := 12) d_TrustDeskModel_counts_72 (by decide) ?_
            have := mz_hi i5_109
            refine mv_icmp_geZ (tgt := 97) (a := i5_109.toInt) (b := 12) d_TrustDeskModel_counts_74 (by decide) rfl (by decide) (fun b110 => ?_) (fun b110 => ?_)
            · exact mv_vret d_TrustDeskModel_counts_97 rfl ⟨_, I_109, rfl, kKR_109⟩
            · refine mv_aload_n d_TrustDeskModel_counts_77 rfl rfl ?_
              obtain ⟨a112, q111, t_a112⟩ := tm_atR I_109 h_q0_109 (k := 65) rfl
              refine tr_getK q111 d_TrustDeskModel_counts_78 f_TrustDeskModel_155_13 ?_
              refine mv_iload d_TrustDeskModel_counts_81 rfl ?_
              refine mv_aload_n d_TrustDeskModel_counts_83 rfl rfl ?_
              obtain ⟨a114, q113, t_a114⟩ := tm_atR I_109 h_q0_109 (k := 64) rfl
              refine tr_getK q113 d_TrustDeskModel_counts_84 f_TrustDeskModel_152_13 ?_
              refine mv_iload d_TrustDeskModel_counts_87 rfl ?_
              refine tr_ialdR (o := o0) (k := 64) I_109 q113 t_a114 (by decide) d_TrustDeskModel_counts_89 (vp_in_iff.mpr (by have := kKR_109.1 32 _ _ rfl; omega)) (fun v115 e116 => ?_)
              refine tr_iastR (k := 65) I_109 kKR_109 (I_109.up h_o0) q111 t_a112 (by decide) (by decide) (fun lo hi h => by cases h) (Or.inl (by decide)) d_TrustDeskModel_counts_90 (vp_in_iff.mpr (by have := kKR_109.1 32 _ _ rfl; omega)) (fun M117 I118 K119 R120 E121 A122 V123 => ?_)
              have z124 := (V123 32)
              have K125 : ∀ i : Nat, i < 880 → 0 ≤ ra M117 o0 8 i := (by have e9 := ((sA_a A122 (by decide +kernel)) : sA [8] _ _ _) 8 rfl; rw [e9]; exact kK8_109)
              refine mv_iinc (v := (i5_109 + 1)) (lv' := [(5, .int (i5_109 + 1)), (3, .long v79), (0, .ref o0), (1, .int x1), (2, .int x2)]) d_TrustDeskModel_counts_91 rfl rfl (by decide) rfl ?_
              refine mv_goto (tgt := 70) d_TrustDeskModel_counts_94 (by decide) ?_
              have b126 : (i5_109 + 1 : Int32).toInt = (i5_109.toInt + 1) := mz_add2 rfl (by decide) (by have := R120.1 32 _ _ rfl; omega) (by have := R120.1 32 _ _ rfl; omega)
              have b127 : (i5_109 + 1).toInt = i5_109.toInt + 1 := mz_addn 1 1 (by decide) (by have := mz_lo i5_109; omega) (by have := mz_hi i5_109; omega)
              exact (ih109 (i5_109 + 1) T_109 M117 n_109 I118 h_q0_109 (by have := R120.1 32 _ _ rfl; first | omega | decide | exact fun h9 => absurd (by decide) h9) R120 K125 (by have := R120.1 32 _ _ rfl; omega))
        have : (0 : Int32).toInt = 0 := by decide
        exact mv_less (Nat.zero_le _) (Nat.zero_le _) (L70_109 4294967296 0 T75 M100 n74 I101 t81 (by have := R104.1 32 _ _ rfl; first | omega | decide | exact fun h9 => absurd (by decide) h9) R104 K108 (by show (2147483647 - (0 : Int) : Int) < _; decide))
      · refine mv_lload_n d_TrustDeskModel_counts_30 rfl rfl ?_
        refine mv_aload_n d_TrustDeskModel_counts_31 rfl rfl ?_
        obtain ⟨v129, q128⟩ := tm_atL I77 t81 (k := 68) rfl
        refine tr_getK q128 d_TrustDeskModel_counts_32 f_TrustDeskModel_574_13 ?_
        refine mv_lgtZ (tgt := 56) (a := v79.toInt) (b := v129.toInt) d_TrustDeskModel_counts_35 d_TrustDeskModel_counts_36 (by decide) rfl rfl (fun b130 => ?_) (fun b130 => ?_)
        · exact mv_vret d_TrustDeskModel_counts_56 rfl ⟨_, I77, rfl, R80⟩
        · refine mv_lload_n d_TrustDeskModel_counts_39 rfl rfl ?_
          refine mv_aload_n d_TrustDeskModel_counts_40 rfl rfl ?_
          refine tr_getK (k := 68) q128 d_TrustDeskModel_counts_41 f_TrustDeskModel_574_13 ?_
          refine mv_lneZ (tgt := 57) (a := v79.toInt) (b := v129.toInt) d_TrustDeskModel_counts_44 d_TrustDeskModel_counts_45 (by decide) rfl rfl (fun b131 => ?_) (fun b131 => ?_)
          · refine mv_aload_n d_TrustDeskModel_counts_57 rfl rfl ?_
            refine mv_lload_n d_TrustDeskModel_counts_58 rfl rfl ?_
            refine tr_putR (k := 68) I77 R80 t81 rfl ⟨_, rfl⟩ (fun _ h => by cases h) rfl (fun lo hi h => by cases h) (Or.inl (by decide)) d_TrustDeskModel_counts_59 p_TrustDeskModel_574_13 rfl rfl (fun M132 I133 q134 K135 R136 A137 V138 => ?_)
            have z139 := (V138 32 (by decide)).trans z82
            have K140 : ∀ i : Nat, i < 880 → 0 ≤ ra M132 o0 8 i := (by have e9 := ((sA_f A137 (by decide)) : sA [8] _ _ _) 8 rfl; rw [e9]; exact K83)
            clear z82
            refine mv_aload_n d_TrustDeskModel_counts_62 rfl rfl ?_
            refine mv_iload_n d_TrustDeskModel_counts_63 rfl rfl ?_
            refine tr_putR (k := 69) I133 R136 t81 rfl ⟨_, rfl⟩ (fun _ h => by cases h) rfl (fun lo hi h => by cases h) (Or.inl (by decide)) d_TrustDeskModel_counts_64 p_TrustDeskModel_571_13 rfl rfl (fun M141 I142 q143 K144 R145 A146 V147 => ?_)
            have z148 := (V147 32 (by decide)).trans z139
            have K149 : ∀ i : Nat, i < 880 → 0 ≤ ra M141 o0 8 i := (by have e9 := ((sA_f A146 (by decide)) : sA [8] _ _ _) 8 rfl; rw [e9]; exact K140)
            clear z139
            refine mv_iconst (v := 0) d_TrustDeskModel_counts_67 (by decide) ?_
            refine mv_istore (lv' := [(5, .int 0), (3, .long v79), (0, .ref o0), (1, .int x1), (2, .int x2)]) d_TrustDeskModel_counts_68 (by decide) rfl ?_
            have L70_150 : ∀ (k : Nat) (i5_150 : Int32) (T_150 : tm_H) (M_150 : mj_M) (n_150 : Nat), tm_I tm_FT (tm_in w_TrustDeskModel_counts_q6_x) x9 T0 M0 n0 T_150 M_150 n_150 → T_150 o0 = some (0, 13, 0) → 0 ≤ i5_150.toInt → (rI M_150 o0) → (∀ i : Nat, i < 880 → 0 ≤ ra M_150 o0 8 i) → 2147483647 - i5_150.toInt < (k : Int) → mj_V g l kY_TrustDeskModel_counts (d + 9) 70 [(5, .int i5_150), (3, .long v79), (0, .ref o0), (1, .int x1), (2, .int x2)] [] M_150 n_150 0 0 (tm_Q tm_FT (tm_in w_TrustDeskModel_counts_q6_x) x9 T0 M0 n0 (fun r _ M => r = none ∧ rI M o0)) := by
              intro k150
              induction k150 with
              | zero =>
                intro i5_150 T_150 M_150 n_150 I_150 h_q0_150 iv0_150 kKR_150 kK8_150 hk150
                have := mz_hi i5_150
                have := kKR_150.1 15 _ _ rfl
                have := kKR_150.1 16 _ _ rfl
                have := kKR_150.1 19 _ _ rfl
                omega
              | succ k150 ih150 =>
                intro i5_150 T_150 M_150 n_150 I_150 h_q0_150 iv0_150 kKR_150 kK8_150 hk150
                refine mv_iload d_TrustDeskModel_counts_70 rfl ?_
                refine mv_bipush (v := 12) d_TrustDeskModel_counts_72 (by decide) ?_
                have := mz_hi i5_150
                refine mv_icmp_geZ (tgt := 97) (a := i5_150.toInt) (b := 12) d_TrustDeskModel_counts_74 (by decide) rfl (by decide) (fun b151 => ?_) (fun b151 => ?_)
                · exact mv_vret d_TrustDeskModel_counts_97 rfl ⟨_, I_150, rfl, kKR_150⟩
                · refine mv_aload_n d_TrustDeskModel_counts_77 rfl rfl ?_
                  obtain ⟨a153, q152, t_a153⟩ := tm_atR I_150 h_q0_150 (k := 65) rfl
                  refine tr_getK q152 d_TrustDeskModel_counts_78 f_TrustDeskModel_155_13 ?_
                  refine mv_iload d_TrustDeskModel_counts_81 rfl ?_
                  refine mv_aload_n d_TrustDeskModel_counts_83 rfl rfl ?_
                  obtain ⟨a155, q154, t_a155⟩ := tm_atR I_150 h_q0_150 (k := 64) rfl
                  refine tr_getK q154 d_TrustDeskModel_counts_84 f_TrustDeskModel_152_13 ?_
                  refine mv_iload d_TrustDeskModel_counts_87 rfl ?_
                  refine tr_ialdR (o := o0) (k := 64) I_150 q154 t_a155 (by decide) d_TrustDeskModel_counts_89 (vp_in_iff.mpr (by have := kKR_150.1 32 _ _ rfl; omega)) (fun v156 e157 => ?_)
                  refine tr_iastR (k := 65) I_150 kKR_150 (I_150.up h_o0) q152 t_a153 (by decide) (by decide) (fun lo hi h => by cases h) (Or.inl (by decide)) d_TrustDeskModel_counts_90 (vp_in_iff.mpr (by have := kKR_150.1 32 _ _ rfl; omega)) (fun M158 I159 K160 R161 E162 A163 V164 => ?_)
                  have z165 := (V164 32)
                  have K166 : ∀ i : Nat, i < 880 → 0 ≤ ra M158 o0 8 i := (by have e9 := ((sA_a A163 (by decide +kernel)) : sA [8] _ _ _) 8 rfl; rw [e9]; exact kK8_150)
                  refine mv_iinc (v := (i5_150 + 1)) (lv' := [(5, .int (i5_150 + 1)), (3, .long v79), (0, .ref o0), (1, .int x1), (2, .int x2)]) d_TrustDeskModel_counts_91 rfl rfl (by decide) rfl ?_
                  refine mv_goto (tgt := 70) d_TrustDeskModel_counts_94 (by decide) ?_
                  have b167 : (i5_150 + 1 : Int32).toInt = (i5_150.toInt + 1) := mz_add2 rfl (by decide) (by have := R161.1 32 _ _ rfl; omega) (by have := R161.1 32 _ _ rfl; omega)
                  have b168 : (i5_150 + 1).toInt = i5_150.toInt + 1 := mz_addn 1 1 (by decide) (by have := mz_lo i5_150; omega) (by have := mz_hi i5_150; omega)
                  exact (ih150 (i5_150 + 1) T_150 M158 n_150 I159 h_q0_150 (by have := R161.1 32 _ _ rfl; first | omega | decide | exact fun h9 => absurd (by decide) h9) R161 K166 (by have := R161.1 32 _ _ rfl; omega))
            have : (0 : Int32).toInt = 0 := by decide
            exact mv_less (Nat.zero_le _) (Nat.zero_le _) (L70_150 4294967296 0 T75 M141 n74 I142 t81 (by have := R145.1 32 _ _ rfl; first | omega | decide | exact fun h9 => absurd (by decide) h9) R145 K149 (by show (2147483647 - (0 : Int) : Int) < _; decide))
          · refine mv_iload_n d_TrustDeskModel_counts_48 rfl rfl ?_
            refine mv_aload_n d_TrustDeskModel_counts_49 rfl rfl ?_
            refine tr_getK (k := 69) q88 d_TrustDeskModel_counts_50 f_TrustDeskModel_571_13 ?_
            have := mz_hi x2
            have := mz_hi v89
            refine mv_icmp_ltZ (tgt := 57) (a := x2.toInt) (b := v89.toInt) d_TrustDeskModel_counts_53 (by decide) rfl rfl (fun b169 => ?_) (fun b169 => ?_)
            · refine mv_aload_n d_TrustDeskModel_counts_57 rfl rfl ?_
              refine mv_lload_n d_TrustDeskModel_counts_58 rfl rfl ?_
              refine tr_putR (k := 68) I77 R80 t81 rfl ⟨_, rfl⟩ (fun _ h => by cases h) rfl (fun lo hi h => by cases h) (Or.inl (by decide)) d_TrustDeskModel_counts_59 p_TrustDeskModel_574_13 rfl rfl (fun M170 I171 q172 K173 R174 A175 V176 => ?_)
              have z177 := (V176 32 (by decide)).trans z82
              have K178 : ∀ i : Nat, i < 880 → 0 ≤ ra M170 o0 8 i := (by have e9 := ((sA_f A175 (by decide)) : sA [8] _ _ _) 8 rfl; rw [e9]; exact K83)
              clear z82
              refine mv_aload_n d_TrustDeskModel_counts_62 rfl rfl ?_
              refine mv_iload_n d_TrustDeskModel_counts_63 rfl rfl ?_
              refine tr_putR (k := 69) I171 R174 t81 rfl ⟨_, rfl⟩ (fun _ h => by cases h) rfl (fun lo hi h => by cases h) (Or.inl (by decide)) d_TrustDeskModel_counts_64 p_TrustDeskModel_571_13 rfl rfl (fun M179 I180 q181 K182 R183 A184 V185 => ?_)
              have z186 := (V185 32 (by decide)).trans z177
              have K187 : ∀ i : Nat, i < 880 → 0 ≤ ra M179 o0 8 i := (by have e9 := ((sA_f A184 (by decide)) : sA [8] _ _ _) 8 rfl; rw [e9]; exact K178)
              clear z177
              refine mv_iconst (v := 0) d_TrustDeskModel_counts_67 (by decide) ?_
              refine mv_istore (lv' := [(5, .int 0), (3, .long v79), (0, .ref o0), (1, .int x1), (2, .int x2)]) d_TrustDeskModel_counts_68 (by decide) rfl ?_
              have L70_188 : ∀ (k : Nat) (i5_188 : Int32) (T_188 : tm_H) (M_188 : mj_M) (n_188 : Nat), tm_I tm_FT (tm_in w_TrustDeskModel_counts_q6_x) x9 T0 M0 n0 T_188 M_188 n_188 → T_188 o0 = some (0, 13, 0) → 0 ≤ i5_188.toInt → (rI M_188 o0) → (∀ i : Nat, i < 880 → 0 ≤ ra M_188 o0 8 i) → 2147483647 - i5_188.toInt < (k : Int) → mj_V g l kY_TrustDeskModel_counts (d + 9) 70 [(5, .int i5_188), (3, .long v79), (0, .ref o0), (1, .int x1), (2, .int x2)] [] M_188 n_188 0 0 (tm_Q tm_FT (tm_in w_TrustDeskModel_counts_q6_x) x9 T0 M0 n0 (fun r _ M => r = none ∧ rI M o0)) := by
                intro k188
                induction k188 with
                | zero =>
                  intro i5_188 T_188 M_188 n_188 I_188 h_q0_188 iv0_188 kKR_188 kK8_188 hk188
                  have := mz_hi i5_188
                  have := kKR_188.1 15 _ _ rfl
                  have := kKR_188.1 16 _ _ rfl
                  have := kKR_188.1 19 _ _ rfl
                  omega
                | succ k188 ih188 =>
                  intro i5_188 T_188 M_188 n_188 I_188 h_q0_188 iv0_188 kKR_188 kK8_188 hk188
                  refine mv_iload d_TrustDeskModel_counts_70 rfl ?_
                  refine mv_bipush (v := 12) d_TrustDeskModel_counts_72 (by decide) ?_
                  have := mz_hi i5_188
                  refine mv_icmp_geZ (tgt := 97) (a := i5_188.toInt) (b := 12) d_TrustDeskModel_counts_74 (by decide) rfl (by decide) (fun b189 => ?_) (fun b189 => ?_)
                  · exact mv_vret d_TrustDeskModel_counts_97 rfl ⟨_, I_188, rfl, kKR_188⟩
                  · refine mv_aload_n d_TrustDeskModel_counts_77 rfl rfl ?_
                    obtain ⟨a191, q190, t_a191⟩ := tm_atR I_188 h_q0_188 (k := 65) rfl
                    refine tr_getK q190 d_TrustDeskModel_counts_78 f_TrustDeskModel_155_13 ?_
                    refine mv_iload d_TrustDeskModel_counts_81 rfl ?_
                    refine mv_aload_n d_TrustDeskModel_counts_83 rfl rfl ?_
                    obtain ⟨a193, q192, t_a193⟩ := tm_atR I_188 h_q0_188 (k := 64) rfl
                    refine tr_getK q192 d_TrustDeskModel_counts_84 f_TrustDeskModel_152_13 ?_
                    refine mv_iload d_TrustDeskModel_counts_87 rfl ?_
                    refine tr_ialdR (o := o0) (k := 64) I_188 q192 t_a193 (by decide) d_TrustDeskModel_counts_89 (vp_in_iff.mpr (by have := kKR_188.1 32 _ _ rfl; omega)) (fun v194 e195 => ?_)
                    refine tr_iastR (k := 65) I_188 kKR_188 (I_188.up h_o0) q190 t_a191 (by decide) (by decide) (fun lo hi h => by cases h) (Or.inl (by decide)) d_TrustDeskModel_counts_90 (vp_in_iff.mpr (by have := kKR_188.1 32 _ _ rfl; omega)) (fun M196 I197 K198 R199 E200 A201 V202 => ?_)
                    have z203 := (V202 32)
                    have K204 : ∀ i : Nat, i < 880 → 0 ≤ ra M196 o0 8 i := (by have e9 := ((sA_a A201 (by decide +kernel)) : sA [8] _ _ _) 8 rfl; rw [e9]; exact kK8_188)
                    refine mv_iinc (v := (i5_188 + 1)) (lv' := [(5, .int (i5_188 + 1)), (3, .long v79), (0, .ref o0), (1, .int x1), (2, .int x2)]) d_TrustDeskModel_counts_91 rfl rfl (by decide) rfl ?_
                    refine mv_goto (tgt := 70) d_TrustDeskModel_counts_94 (by decide) ?_
                    have b205 : (i5_188 + 1 : Int32).toInt = (i5_188.toInt + 1) := mz_add2 rfl (by decide) (by have := R199.1 32 _ _ rfl; omega) (by have := R199.1 32 _ _ rfl; omega)
                    have b206 : (i5_188 + 1).toInt = i5_188.toInt + 1 := mz_addn 1 1 (by decide) (by have := mz_lo i5_188; omega) (by have := mz_hi i5_188; omega)
                    exact (ih188 (i5_188 + 1) T_188 M196 n_188 I197 h_q0_188 (by have := R199.1 32 _ _ rfl; first | omega | decide | exact fun h9 => absurd (by decide) h9) R199 K204 (by have := R199.1 32 _ _ rfl; omega))
              have : (0 : Int32).toInt = 0 := by decide
              exact mv_less (Nat.zero_le _) (Nat.zero_le _) (L70_188 4294967296 0 T75 M179 n74 I180 t81 (by have := R183.1 32 _ _ rfl; first | omega | decide | exact fun h9 => absurd (by decide) h9) R183 K187 (by show (2147483647 - (0 : Int) : Int) < _; decide))
            · exact mv_vret d_TrustDeskModel_counts_56 rfl ⟨_, I77, rfl, R80⟩
def w_TrustDeskModel_counts_q7_x : List Nat := [1368, 1369, 20064, 20065]
set_option maxHeartbeats 100000000 in theorem tc_TrustDeskModel_counts_q7_x {g : mj_G} {l : Launch} {d : Nat} {T0 : tm_H} {M0 : mj_M} {n0 x9 : Nat} {o0 : Nat} {x1 : Int32} {x2 : Int32} (h_o0 : T0 o0 = some (0, 13, 0)) (yR : rI M0 o0) (y8 : ∀ i : Nat, i < 880 → 0 ≤ ra M0 o0 8 i) (yl : 5 ≤ x1.toInt ∧ x1.toInt ≤ rv M0 o0 32 ∧ 0 ≤ x2.toInt ∧ x2.toInt ≤ x1.toInt) (I0 : tm_I tm_FT (tm_in w_TrustDeskModel_counts_q7_x) x9 T0 M0 n0 T0 M0 n0) : mj_Met g l kY_TrustDeskModel_counts (d + 10) [.ref o0, .int x1, .int x2] M0 n0 0 0 (tm_Q tm_FT (tm_in w_TrustDeskModel_counts_q7_x) x9 T0 M0 n0 (fun r _ M => r = none ∧ rI M o0)) := by
  refine mj_enter (by decide) (Nat.le_of_ble_eq_true rfl) ?_
  have K1 : ∀ i : Nat, i < 880 → 0 ≤ ra M0 o0 8 i := y8
  refine mv_iload_n d_TrustDeskModel_counts_0 rfl rfl ?_
  refine mv_aload_n d_TrustDeskModel_counts_1 rfl rfl ?_
  obtain ⟨v3, q2⟩ := tm_atI I0 h_o0 (k := 32) rfl
  refine tr_getK q2 d_TrustDeskModel_counts_2 f_TrustDeskModel_415_13 ?_
  have := yR.f (k := 32) q2 rfl
  have := tm_rv q2
  have := mz_hi x1
  have := mz_hi v3
  refine mv_icmp_neZ (tgt := 98) (a := x1.toInt) (b := v3.toInt) d_TrustDeskModel_counts_5 (by decide) rfl rfl (fun b4 => ?_) (fun b4 => ?_)
  · refine mv_aload_n d_TrustDeskModel_counts_98 rfl rfl ?_
    obtain ⟨v6, q5⟩ := tm_atI I0 h_o0 (k := 67) rfl
    refine tr_getK q5 d_TrustDeskModel_counts_99 f_TrustDeskModel_560_13 ?_
    refine mv_iload_n d_TrustDeskModel_counts_102 rfl rfl ?_
    refine mv_ishr d_TrustDeskModel_counts_103 ?_
    refine mv_iconst (v := 1) d_TrustDeskModel_counts_104 (by decide) ?_
    refine mv_iand d_TrustDeskModel_counts_105 ?_
    have := mz_hi ((v6 >>> (x1 &&& 31)) &&& 1)
    refine mv_if_neZ (tgt := 118) (a := ((v6 >>> (x1 &&& 31)) &&& 1).toInt) d_TrustDeskModel_counts_106 (by decide) rfl (fun b7 => ?_) (fun b7 => ?_)
    · refine mv_iconst (v := 0) d_TrustDeskModel_counts_118 (by decide) ?_
      refine mv_istore_n (lv' := [(3, .int 0), (0, .ref o0), (1, .int x1), (2, .int x2)]) d_TrustDeskModel_counts_119 rfl (by decide) rfl ?_
      have L120_8 : ∀ (k : Nat) (i3_8 : Int32) (T_8 : tm_H) (M_8 : mj_M) (n_8 : Nat), tm_I tm_FT (tm_in w_TrustDeskModel_counts_q7_x) x9 T0 M0 n0 T_8 M_8 n_8 → T_8 o0 = some (0, 13, 0) → 0 ≤ i3_8.toInt → rv M_8 o0 32 = rv M0 o0 32 → (rI M_8 o0) → (∀ i : Nat, i < 880 → 0 ≤ ra M_8 o0 8 i) → 2147483647 - i3_8.toInt < (k : Int) → mj_V g l kY_TrustDeskModel_counts (d + 10) 120 [(3, .int i3_8), (0, .ref o0), (1, .int x1), (2, .int x2)] [] M_8 n_8 0 0 (tm_Q tm_FT (tm_in w_TrustDeskModel_counts_q7_x) x9 T0 M0 n0 (fun r _ M => r = none ∧ rI M o0)) := by
        intro k8
        induction k8 with
        | zero =>
          intro i3_8 T_8 M_8 n_8 I_8 h_q0_8 iv0_8 iv1_8 kKR_8 kK8_8 hk8
          have := mz_hi i3_8
          have := kKR_8.1 15 _ _ rfl
          have := kKR_8.1 16 _ _ rfl
          have := kKR_8.1 19 _ _ rfl
          omega
        | succ k8 ih8 =>
          intro i3_8 T_8 M_8 n_8 I_8 h_q0_8 iv0_8 iv1_8 kKR_8 kK8_8 hk8
          refine mv_iload_n d_TrustDeskModel_counts_120 rfl rfl ?_
          refine mv_iload_n d_TrustDeskModel_counts_121 rfl rfl ?_
          have := mz_hi i3_8
          have := mz_hi x2
          refine mv_icmp_gtZ (tgt := 163) (a := i3_8.toInt) (b := x2.toInt) d_TrustDeskModel_counts_122 (by decide) rfl rfl (fun b9 => ?_) (fun b9 => ?_)
          · exact mv_vret d_TrustDeskModel_counts_163 rfl ⟨_, I_8, rfl, kKR_8⟩
          · refine mv_iload_n d_TrustDeskModel_counts_125 rfl rfl ?_
            refine mv_bipush (v := 8) d_TrustDeskModel_counts_126 (by decide) ?_
            have := mz_hi i3_8
            refine mv_icmp_geZ (tgt := 163) (a := i3_8.toInt) (b := 8) d_TrustDeskModel_counts_128 (by decide) rfl (by decide) (fun b10 => ?_) (fun b10 => ?_)
            · exact mv_vret d_TrustDeskModel_counts_163 rfl ⟨_, I_8, rfl, kKR_8⟩
            · refine mv_aload_n d_TrustDeskModel_counts_131 rfl rfl ?_
              obtain ⟨a12, q11, t_a12⟩ := tm_atR I_8 h_q0_8 (k := 64) rfl
              refine tr_getK q11 d_TrustDeskModel_counts_132 f_TrustDeskModel_152_13 ?_
              refine mv_iload_n d_TrustDeskModel_counts_135 rfl rfl ?_
              refine mv_iload_n d_TrustDeskModel_counts_136 rfl rfl ?_
              refine tr_iastR (k := 64) I_8 kKR_8 (I_8.up h_o0) q11 t_a12 (by decide) (by decide) (fun lo hi h => by cases h) (Or.inl (by decide)) d_TrustDeskModel_counts_137 (vp_in_iff.mpr (by have := kKR_8.1 32 _ _ rfl; omega)) (fun M13 I14 K15 R16 E17 A18 V19 => ?_)
              have z20 := (V19 32)
              have K21 : ∀ i : Nat, i < 880 → 0 ≤ ra M13 o0 8 i := (by have e9 := ((sA_a A18 (by decide +kernel)) : sA [8] _ _ _) 8 rfl; rw [e9]; exact kK8_8)
              refine mv_aload_n d_TrustDeskModel_counts_138 rfl rfl ?_
              refine mv_iload_n d_TrustDeskModel_counts_139 rfl rfl ?_
              refine mv_iconst (v := 1) d_TrustDeskModel_counts_140 (by decide) ?_
              refine mv_iadd d_TrustDeskModel_counts_141 ?_
              refine mv_iload_n d_TrustDeskModel_counts_142 rfl rfl ?_
              refine mv_iload_n d_TrustDeskModel_counts_143 rfl rfl ?_
              have := mz_hi i3_8
              have := mz_hi x2
              refine mv_icmp_neZ (tgt := 153) (a := i3_8.toInt) (b := x2.toInt) d_TrustDeskModel_counts_144 (by decide) rfl rfl (fun b22 => ?_) (fun b22 => ?_)
              · refine mv_iload_n d_TrustDeskModel_counts_153 rfl rfl ?_
                obtain ⟨_, b29, -⟩ := I14.1 _ _ h_q0_8
                have b30 : (x1 + 1 : Int32).toInt = (x1.toInt + 1) := mz_add2 rfl (by decide) (by have := R16.1 32 _ _ rfl; omega) (by have := R16.1 32 _ _ rfl; omega)
                refine mv_callV (kc' := 0) (ks' := 0) (As := [.int (x1 + 1), .int x2]) (st9 := [.int x2, .int (x1 + 1), .ref o0]) d_TrustDeskModel_counts_154 lV_TrustDeskModel_578 b29 rfl (tc_TrustDeskModel_counts_q6_x (d := d) (x9 := x9) (o0 := o0) (x1 := (x1 + 1)) (x2 := x2) h_q0_8 R16 K21 (by have := R16.1 32 _ _ rfl; omega) I14.start) rfl (Nat.le_of_ble_eq_true rfl) (Nat.le_of_ble_eq_true rfl) (Nat.le_of_ble_eq_true rfl) (hst := rfl) (fun b23r M24 n25 b23 => ?_)
                obtain ⟨T26, J27, rfl, R31⟩ := b23
                have I28 := I14.call J27 (tm_sub (by decide)) (Or.inl rfl)
                have t32 := J27.up h_q0_8
                have z33 := (rv_c I14 J27 (I14.up h_o0) (k := 32) rfl).trans z20
                have K34 : ∀ i : Nat, i < 880 → 0 ≤ ra M24 o0 8 i := (by have e9 := ((sA_c I14 J27 (I14.up h_o0) (by decide +kernel)) : sA [8] _ _ _) 8 rfl; rw [e9]; exact K21)
                clear z20
                have q35 := J27.keep h_q0_8 (by decide) (K15 _ 13 64 _ q11)
                have t36 := J27.up t_a12
                refine mv_iinc (v := (i3_8 + 1)) (lv' := [(3, .int (i3_8 + 1)), (0, .ref o0), (1, .int x1), (2, .int x2)]) d_TrustDeskModel_counts_157 rfl rfl (by decide) rfl ?_
                refine mv_goto (tgt := 120) d_TrustDeskModel_counts_160 (by decide) ?_
                have b37 : (i3_8 + 1 : Int32).toInt = (i3_8.toInt + 1) := mz_add2 rfl (by decide) (by have := R31.1 32 _ _ rfl; omega) (by have := R31.1 32 _ _ rfl; omega)
                have b38 : (i3_8 + 1).toInt = i3_8.toInt + 1 := mz_addn 1 1 (by decide) (by have := mz_lo i3_8; omega) (by have := mz_hi i3_8; omega)
                exact (ih8 (i3_8 + 1) T26 M24 n25 I28 t32 (by have := R31.1 32 _ _ rfl; first | omega | decide | exact fun h9 => absurd (by decide) h9) (by have := R31.1 32 _ _ rfl; first | omega | decide | exact fun h9 => absurd (by decide) h9) R31 K34 (by have := R31.1 32 _ _ rfl; omega))
              · refine mv_iload_n d_TrustDeskModel_counts_147 rfl rfl ?_
                refine mv_iconst (v := 1) d_TrustDeskModel_counts_148 (by decide) ?_
                refine mv_iadd d_TrustDeskModel_counts_149 ?_
                refine mv_goto (tgt := 154) d_TrustDeskModel_counts_150 (by decide) ?_
                obtain ⟨_, b45, -⟩ := I14.1 _ _ h_q0_8
                have b46 : (x1 + 1 : Int32).toInt = (x1.toInt + 1) := mz_add2 rfl (by decide) (by have := R16.1 32 _ _ rfl; omega) (by have := R16.1 32 _ _ rfl; omega)
                have b47 : (x2 + 1 : Int32).toInt = (x2.toInt + 1) := mz_add2 rfl (by decide) (by have := R16.1 32 _ _ rfl; omega) (by have := R16.1 32 _ _ rfl; omega)
                refine mv_callV (kc' := 0) (ks' := 0) (As := [.int (x1 + 1), .int (x2 + 1)]) (st9 := [.int (x2 + 1), .int (x1 + 1), .ref o0]) d_TrustDeskModel_counts_154 lV_TrustDeskModel_578 b45 rfl (tc_TrustDeskModel_counts_q6_x (d := d) (x9 := x9) (o0 := o0) (x1 := (x1 + 1)) (x2 := (x2 + 1)) h_q0_8 R16 K21 (by have := R16.1 32 _ _ rfl; omega) I14.start) rfl (Nat.le_of_ble_eq_true rfl) (Nat.le_of_ble_eq_true rfl) (Nat.le_of_ble_eq_true rfl) (hst := rfl) (fun b39r M40 n41 b39 => ?_)
                obtain ⟨T42, J43, rfl, R48⟩ := b39
                have I44 := I14.call J43 (tm_sub (by decide)) (Or.inl rfl)
                have t49 := J43.up h_q0_8
                have z50 := (rv_c I14 J43 (I14.up h_o0) (k := 32) rfl).trans z20
                have K51 : ∀ i : Nat, i < 880 → 0 ≤ ra M40 o0 8 i := (by have e9 := ((sA_c I14 J43 (I14.up h_o0) (by decide +kernel)) : sA [8] _ _ _) 8 rfl; rw [e9]; exact K21)
                clear z20
                have q52 := J43.keep h_q0_8 (by decide) (K15 _ 13 64 _ q11)
                have t53 := J43.up t_a12
                refine mv_iinc (v := (i3_8 + 1)) (lv' := [(3, .int (i3_8 + 1)), (0, .ref o0), (1, .int x1), (2, .int x2)]) d_TrustDeskModel_counts_157 rfl rfl (by decide) rfl ?_
                refine mv_goto (tgt := 120) d_TrustDeskModel_counts_160 (by decide) ?_
                have b54 : (i3_8 + 1 : Int32).toInt = (i3_8.toInt + 1) := mz_add2 rfl (by decide) (by have := R48.1 32 _ _ rfl; omega) (by have := R48.1 32 _ _ rfl; omega)
                have b55 : (i3_8 + 1).toInt = i3_8.toInt + 1 := mz_addn 1 1 (by decide) (by have := mz_lo i3_8; omega) (by have := mz_hi i3_8; omega)
                exact (ih8 (i3_8 + 1) T42 M40 n41 I44 t49 (by have := R48.1 32 _ _ rfl; first | omega | decide | exact fun h9 => absurd (by decide) h9) (by have := R48.1 32 _ _ rfl; first | omega | decide | exact fun h9 => absurd (by decide) h9) R48 K51 (by have := R48.1 32 _ _ rfl; omega))
      have : (0 : Int32).toInt = 0 := by decide
      exact mv_less (Nat.zero_le _) (Nat.zero_le _) (L120_8 4294967296 0 T0 M0 n0 I0 h_o0 (by have := yR.1 32 _ _ rfl; first | omega | decide | exact fun h9 => absurd (by decide) h9) (by have := yR.1 32 _ _ rfl; first | omega | decide | exact fun h9 => absurd (by decide) h9) yR K1 (by show (2147483647 - (0 : Int) : Int) < _; decide))
    · refine mv_aload_n d_TrustDeskModel_counts_109 rfl rfl ?_
      refine mv_iload_n d_TrustDeskModel_counts_110 rfl rfl ?_
      refine mv_iconst (v := 1) d_TrustDeskModel_counts_111 (by decide) ?_
      refine mv_iadd d_TrustDeskModel_counts_112 ?_
      refine mv_iload_n d_TrustDeskModel_counts_113 rfl rfl ?_
      obtain ⟨_, b62, -⟩ := I0.1 _ _ h_o0
      have b63 : (x1 + 1 : Int32).toInt = (x1.toInt + 1) := mz_add2 rfl (by decide) (by have := yR.1 32 _ _ rfl; omega) (by have := yR.1 32 _ _ rfl; omega)
      refine mv_callV (kc' := 0) (ks' := 0) (As := [.int (x1 + 1), .int x2]) (st9 := [.int x2, .int (x1 + 1), .ref o0]) d_TrustDeskModel_counts_114 lV_TrustDeskModel_578 b62 rfl (tc_TrustDeskModel_counts_q6_x (d := d) (x9 := x9) (o0 := o0) (x1 := (x1 + 1)) (x2 := x2) h_o0 yR K1 (by have := yR.1 32 _ _ rfl; omega) I0.start) rfl (Nat.le_of_ble_eq_true rfl) (Nat.le_of_ble_eq_true rfl) (Nat.le_of_ble_eq_true rfl) (hst := rfl) (fun b56r M57 n58 b56 => ?_)
      obtain ⟨T59, J60, rfl, R64⟩ := b56
      have I61 := I0.call J60 (tm_sub (by decide)) (Or.inl rfl)
      have t65 := J60.up h_o0
      have z66 := (rv_c I0 J60 (I0.up h_o0) (k := 32) rfl)
      have K67 : ∀ i : Nat, i < 880 → 0 ≤ ra M57 o0 8 i := (by have e9 := ((sA_c I0 J60 (I0.up h_o0) (by decide +kernel)) : sA [8] _ _ _) 8 rfl; rw [e9]; exact K1)
      have q68 := J60.keep h_o0 (by decide) q2
      have q69 := J60.keep h_o0 (by decide) q5
      exact mv_vret d_TrustDeskModel_counts_117 rfl ⟨_, I61, rfl, R64⟩
  · refine mv_aload_n d_TrustDeskModel_counts_8 rfl rfl ?_
    refine mv_aload_n d_TrustDeskModel_counts_9 rfl rfl ?_
    obtain ⟨a71, q70, t_a71⟩ := tm_atR I0 h_o0 (k := 64) rfl
    refine tr_getK q70 d_TrustDeskModel_counts_10 f_TrustDeskModel_152_13 ?_
    obtain ⟨_, b78, -⟩ := I0.1 _ _ h_o0
    refine mv_callV (kc' := 0) (ks' := 0) (As := [.ref a71]) (st9 := [.ref a71, .ref o0]) d_TrustDeskModel_counts_13 lV_TrustDeskModel_567 b78 rfl (tc_TrustDeskModel_idle_q64_x (d := (d + 7)) (x9 := x9) (o0 := o0) (o1 := a71) h_o0 t_a71 yR K1 I0.start) rfl (Nat.le_of_ble_eq_true rfl) (Nat.le_of_ble_eq_true rfl) (Nat.le_of_ble_eq_true rfl) (hst := rfl) (fun b72r M73 n74 b72 => ?_)
    obtain ⟨T75, J76, v79, rfl, R80⟩ := b72
    have I77 := I0.call J76 (tm_sub (by decide)) (Or.inl rfl)
    have t81 := J76.up h_o0
    have z82 := (rv_c I0 J76 (I0.up h_o0) (k := 32) rfl)
    have K83 : ∀ i : Nat, i < 880 → 0 ≤ ra M73 o0 8 i := (by have e9 := ((sA_c I0 J76 (I0.up h_o0) (by decide +kernel)) : sA [8] _ _ _) 8 rfl; rw [e9]; exact K1)
    have q84 := J76.keep h_o0 (by decide) q2
    have q85 := J76.keep h_o0 (by decide) q70
    have t86 := J76.up t_a71
    refine mv_lstore_n (lv' := [(3, .long v79), (0, .ref o0), (1, .int x1), (2, .int x2)]) d_TrustDeskModel_counts_16 rfl (by decide) rfl ?_
    refine mv_lload_n d_TrustDeskModel_counts_17 rfl rfl ?_
    refine mv_lconst (v := 0) d_TrustDeskModel_counts_18 (by decide) ?_
    refine mv_lltZ (tgt := 56) (a := v79.toInt) (b := 0) d_TrustDeskModel_counts_19 d_TrustDeskModel_counts_20 (by decide) rfl (by decide) (fun b87 => ?_) (fun b87 => ?_)
    · exact mv_vret d_TrustDeskModel_counts_56 rfl ⟨_, I77, rfl, R80⟩
    · refine mv_aload_n d_TrustDeskModel_counts_23 rfl rfl ?_
      obtain ⟨v89, q88⟩ := tm_atI I77 t81 (k := 69) rfl
      refine tr_getK q88 d_TrustDeskModel_counts_24 f_TrustDeskModel_571_13 ?_
      have := mz_hi v89
      refine mv_if_eqZ (tgt := 57) (a := v89.toInt) d_TrustDeskModel_counts_27 (by decide) rfl (fun b90 => ?_) (fun b90 => ?_)
      · refine mv_aload_n d_TrustDeskModel_counts_57 rfl rfl ?_
        refine mv_lload_n d_TrustDeskModel_counts_58 rfl rfl ?_
        refine tr_putR (k := 68) I77 R80 t81 rfl ⟨_, rfl⟩ (fun _ h => by cases h) rfl (fun lo hi h => by cases h) (Or.inl (by decide)) d_TrustDeskModel_counts_59 p_TrustDeskModel_574_13 rfl rfl (fun M91 I92 q93 K94 R95 A96 V97 => ?_)
        have z98 := (V97 32 (by decide)).trans z82
        have K99 : ∀ i : Nat, i < 880 → 0 ≤ ra M91 o0 8 i := (by have e9 := ((sA_f A96 (by decide)) : sA [8] _ _ _) 8 rfl; rw [e9]; exact K83)
        clear z82
        refine mv_aload_n d_TrustDeskModel_counts_62 rfl rfl ?_
        refine mv_iload_n d_TrustDeskModel_counts_63 rfl rfl ?_
        refine tr_putR (k := 69) I92 R95 t81 rfl ⟨_, rfl⟩ (fun _ h => by cases h) rfl (fun lo hi h => by cases h) (Or.inl (by decide)) d_TrustDeskModel_counts_64 p_TrustDeskModel_571_13 rfl rfl (fun M100 I101 q102 K103 R104 A105 V106 => ?_)
        have z107 := (V106 32 (by decide)).trans z98
        have K108 : ∀ i : Nat, i < 880 → 0 ≤ ra M100 o0 8 i := (by have e9 := ((sA_f A105 (by decide)) : sA [8] _ _ _) 8 rfl; rw [e9]; exact K99)
        clear z98
        refine mv_iconst (v := 0) d_TrustDeskModel_counts_67 (by decide) ?_
        refine mv_istore (lv' := [(5, .int 0), (3, .long v79), (0, .ref o0), (1, .int x1), (2, .int x2)]) d_TrustDeskModel_counts_68 (by decide) rfl ?_
        have L70_109 : ∀ (k : Nat) (i5_109 : Int32) (T_109 : tm_H) (M_109 : mj_M) (n_109 : Nat), tm_I tm_FT (tm_in w_TrustDeskModel_counts_q7_x) x9 T0 M0 n0 T_109 M_109 n_109 → T_109 o0 = some (0, 13, 0) → 0 ≤ i5_109.toInt → (rI M_109 o0) → (∀ i : Nat, i < 880 → 0 ≤ ra M_109 o0 8 i) → 2147483647 - i5_109.toInt < (k : Int) → mj_V g l kY_TrustDeskModel_counts (d + 10) 70 [(5, .int i5_109), (3, .long v79), (0, .ref o0), (1, .int x1), (2, .int x2)] [] M_109 n_109 0 0 (tm_Q tm_FT (tm_in w_TrustDeskModel_counts_q7_x) x9 T0 M0 n0 (fun r _ M => r = none ∧ rI M o0)) := by
          intro k109
          induction k109 with
          | zero =>
            intro i5_109 T_109 M_109 n_109 I_109 h_q0_109 iv0_109 kKR_109 kK8_109 hk109
            have := mz_hi i5_109
            have := kKR_109.1 15 _ _ rfl
            have := kKR_109.1 16 _ _ rfl
            have := kKR_109.1 19 _ _ rfl
            omega
          | succ k109 ih109 =>
            intro i5_109 T_109 M_109 n_109 I_109 h_q0_109 iv0_109 kKR_109 kK8_109 hk109
            refine mv_iload d_TrustDeskModel_counts_70 rfl ?_
            refine mv_bipush (v := 12) d_TrustDeskModel_counts_72 (by decide) ?_
            have := mz_hi i5_109
            refine mv_icmp_geZ (tgt := 97) (a := i5_109.toInt) (b := 12) d_TrustDeskModel_counts_74 (by decide) rfl (by decide) (fun b110 => ?_) (fun b110 => ?_)
            · exact mv_vret d_TrustDeskModel_counts_97 rfl ⟨_, I_109, rfl, kKR_109⟩
            · refine mv_aload_n d_TrustDeskModel_counts_77 rfl rfl ?_
              obtain ⟨a112, q111, t_a112⟩ := tm_atR I_109 h_q0_109 (k := 65) rfl
              refine tr_getK q111 d_TrustDeskModel_counts_78 f_TrustDeskModel_155_13 ?_
              refine mv_iload d_TrustDeskModel_counts_81 rfl ?_
              refine mv_aload_n d_TrustDeskModel_counts_83 rfl rfl ?_
              obtain ⟨a114, q113, t_a114⟩ := tm_atR I_109 h_q0_109 (k := 64) rfl
              refine tr_getK q113 d_TrustDeskModel_counts_84 f_TrustDeskModel_152_13 ?_
              refine mv_iload d_TrustDeskModel_counts_87 rfl ?_
              refine tr_ialdR (o := o0) (k := 64) I_109 q113 t_a114 (by decide) d_TrustDeskModel_counts_89 (vp_in_iff.mpr (by have := kKR_109.1 32 _ _ rfl; omega)) (fun v115 e116 => ?_)
              refine tr_iastR (k := 65) I_109 kKR_109 (I_109.up h_o0) q111 t_a112 (by decide) (by decide) (fun lo hi h => by cases h) (Or.inl (by decide)) d_TrustDeskModel_counts_90 (vp_in_iff.mpr (by have := kKR_109.1 32 _ _ rfl; omega)) (fun M117 I118 K119 R120 E121 A122 V123 => ?_)
              have z124 := (V123 32)
              have K125 : ∀ i : Nat, i < 880 → 0 ≤ ra M117 o0 8 i := (by have e9 := ((sA_a A122 (by decide +kernel)) : sA [8] _ _ _) 8 rfl; rw [e9]; exact kK8_109)
              refine mv_iinc (v := (i5_109 + 1)) (lv' := [(5, .int (i5_109 + 1)), (3, .long v79), (0, .ref o0), (1, .int x1), (2, .int x2)]) d_TrustDeskModel_counts_91 rfl rfl (by decide) rfl ?_
              refine mv_goto (tgt := 70) d_TrustDeskModel_counts_94 (by decide) ?_
              have b126 : (i5_109 + 1 : Int32).toInt = (i5_109.toInt + 1) := mz_add2 rfl (by decide) (by have := R120.1 32 _ _ rfl; omega) (by have := R120.1 32 _ _ rfl; omega)
              have b127 : (i5_109 + 1).toInt = i5_109.toInt + 1 := mz_addn 1 1 (by decide) (by have := mz_lo i5_109; omega) (by have := mz_hi i5_109; omega)
              exact (ih109 (i5_109 + 1) T_109 M117 n_109 I118 h_q0_109 (by have := R120.1 32 _ _ rfl; first | omega | decide | exact fun h9 => absurd (by decide) h9) R120 K125 (by have := R120.1 32 _ _ rfl; omega))
        have : (0 : Int32).toInt = 0 := by decide
        exact mv_less (Nat.zero_le _) (Nat.zero_le _) (L70_109 4294967296 0 T75 M100 n74 I101 t81 (by have := R104.1 32 _ _ rfl; first | omega | decide | exact fun h9 => absurd (by decide) h9) R104 K108 (by show (2147483647 - (0 : Int) : Int) < _; decide))
      · refine mv_lload_n d_TrustDeskModel_counts_30 rfl rfl ?_
        refine mv_aload_n d_TrustDeskModel_counts_31 rfl rfl ?_
        obtain ⟨v129, q128⟩ := tm_atL I77 t81 (k := 68) rfl
        refine tr_getK q128 d_TrustDeskModel_counts_32 f_TrustDeskModel_574_13 ?_
        refine mv_lgtZ (tgt := 56) (a := v79.toInt) (b := v129.toInt) d_TrustDeskModel_counts_35 d_TrustDeskModel_counts_36 (by decide) rfl rfl (fun b130 => ?_) (fun b130 => ?_)
        · exact mv_vret d_TrustDeskModel_counts_56 rfl ⟨_, I77, rfl, R80⟩
        · refine mv_lload_n d_TrustDeskModel_counts_39 rfl rfl ?_
          refine mv_aload_n d_TrustDeskModel_counts_40 rfl rfl ?_
          refine tr_getK (k := 68) q128 d_TrustDeskModel_counts_41 f_TrustDeskModel_574_13 ?_
          refine mv_lneZ (tgt := 57) (a := v79.toInt) (b := v129.toInt) d_TrustDeskModel_counts_44 d_TrustDeskModel_counts_45 (by decide) rfl rfl (fun b131 => ?_) (fun b131 => ?_)
          · refine mv_aload_n d_TrustDeskModel_counts_57 rfl rfl ?_
            refine mv_lload_n d_TrustDeskModel_counts_58 rfl rfl ?_
            refine tr_putR (k := 68) I77 R80 t81 rfl ⟨_, rfl⟩ (fun _ h => by cases h) rfl (fun lo hi h => by cases h) (Or.inl (by decide)) d_TrustDeskModel_counts_59 p_TrustDeskModel_574_13 rfl rfl (fun M132 I133 q134 K135 R136 A137 V138 => ?_)
            have z139 := (V138 32 (by decide)).trans z82
            have K140 : ∀ i : Nat, i < 880 → 0 ≤ ra M132 o0 8 i := (by have e9 := ((sA_f A137 (by decide)) : sA [8] _ _ _) 8 rfl; rw [e9]; exact K83)
            clear z82
            refine mv_aload_n d_TrustDeskModel_counts_62 rfl rfl ?_
            refine mv_iload_n d_TrustDeskModel_counts_63 rfl rfl ?_
            refine tr_putR (k := 69) I133 R136 t81 rfl ⟨_, rfl⟩ (fun _ h => by cases h) rfl (fun lo hi h => by cases h) (Or.inl (by decide)) d_TrustDeskModel_counts_64 p_TrustDeskModel_571_13 rfl rfl (fun M141 I142 q143 K144 R145 A146 V147 => ?_)
            have z148 := (V147 32 (by decide)).trans z139
            have K149 : ∀ i : Nat, i < 880 → 0 ≤ ra M141 o0 8 i := (by have e9 := ((sA_f A146 (by decide)) : sA [8] _ _ _) 8 rfl; rw [e9]; exact K140)
            clear z139
            refine mv_iconst (v := 0) d_TrustDeskModel_counts_67 (by decide) ?_
            refine mv_istore (lv' := [(5, .int 0), (3, .long v79), (0, .ref o0), (1, .int x1), (2, .int x2)]) d_TrustDeskModel_counts_68 (by decide) rfl ?_
            have L70_150 : ∀ (k : Nat) (i5_150 : Int32) (T_150 : tm_H) (M_150 : mj_M) (n_150 : Nat), tm_I tm_FT (tm_in w_TrustDeskModel_counts_q7_x) x9 T0 M0 n0 T_150 M_150 n_150 → T_150 o0 = some (0, 13, 0) → 0 ≤ i5_150.toInt → (rI M_150 o0) → (∀ i : Nat, i < 880 → 0 ≤ ra M_150 o0 8 i) → 2147483647 - i5_150.toInt < (k : Int) → mj_V g l kY_TrustDeskModel_counts (d + 10) 70 [(5, .int i5_150), (3, .long v79), (0, .ref o0), (1, .int x1), (2, .int x2)] [] M_150 n_150 0 0 (tm_Q tm_FT (tm_in w_TrustDeskModel_counts_q7_x) x9 T0 M0 n0 (fun r _ M => r = none ∧ rI M o0)) := by
              intro k150
              induction k150 with
              | zero =>
                intro i5_150 T_150 M_150 n_150 I_150 h_q0_150 iv0_150 kKR_150 kK8_150 hk150
                have := mz_hi i5_150
                have := kKR_150.1 15 _ _ rfl
                have := kKR_150.1 16 _ _ rfl
                have := kKR_150.1 19 _ _ rfl
                omega
              | succ k150 ih150 =>
                intro i5_150 T_150 M_150 n_150 I_150 h_q0_150 iv0_150 kKR_150 kK8_150 hk150
                refine mv_iload d_TrustDeskModel_counts_70 rfl ?_
                refine mv_bipush (v := 12) d_TrustDeskModel_counts_72 (by decide) ?_
                have := mz_hi i5_150
                refine mv_icmp_geZ (tgt := 97) (a := i5_150.toInt) (b := 12) d_TrustDeskModel_counts_74 (by decide) rfl (by decide) (fun b151 => ?_) (fun b151 => ?_)
                · exact mv_vret d_TrustDeskModel_counts_97 rfl ⟨_, I_150, rfl, kKR_150⟩
                · refine mv_aload_n d_TrustDeskModel_counts_77 rfl rfl ?_
                  obtain ⟨a153, q152, t_a153⟩ := tm_atR I_150 h_q0_150 (k := 65) rfl
                  refine tr_getK q152 d_TrustDeskModel_counts_78 f_TrustDeskModel_155_13 ?_
                  refine mv_iload d_TrustDeskModel_counts_81 rfl ?_
                  refine mv_aload_n d_TrustDeskModel_counts_83 rfl rfl ?_
                  obtain ⟨a155, q154, t_a155⟩ := tm_atR I_150 h_q0_150 (k := 64) rfl
                  refine tr_getK q154 d_TrustDeskModel_counts_84 f_TrustDeskModel_152_13 ?_
                  refine mv_iload d_TrustDeskModel_counts_87 rfl ?_
                  refine tr_ialdR (o := o0) (k := 64) I_150 q154 t_a155 (by decide) d_TrustDeskModel_counts_89 (vp_in_iff.mpr (by have := kKR_150.1 32 _ _ rfl; omega)) (fun v156 e157 => ?_)
                  refine tr_iastR (k := 65) I_150 kKR_150 (I_150.up h_o0) q152 t_a153 (by decide) (by decide) (fun lo hi h => by cases h) (Or.inl (by decide)) d_TrustDeskModel_counts_90 (vp_in_iff.mpr (by have := kKR_150.1 32 _ _ rfl; omega)) (fun M158 I159 K160 R161 E162 A163 V164 => ?_)
                  have z165 := (V164 32)
                  have K166 : ∀ i : Nat, i < 880 → 0 ≤ ra M158 o0 8 i := (by have e9 := ((sA_a A163 (by decide +kernel)) : sA [8] _ _ _) 8 rfl; rw [e9]; exact kK8_150)
                  refine mv_iinc (v := (i5_150 + 1)) (lv' := [(5, .int (i5_150 + 1)), (3, .long v79), (0, .ref o0), (1, .int x1), (2, .int x2)]) d_TrustDeskModel_counts_91 rfl rfl (by decide) rfl ?_
                  refine mv_goto (tgt := 70) d_TrustDeskModel_counts_94 (by decide) ?_
                  have b167 : (i5_150 + 1 : Int32).toInt = (i5_150.toInt + 1) := mz_add2 rfl (by decide) (by have := R161.1 32 _ _ rfl; omega) (by have := R161.1 32 _ _ rfl; omega)
                  have b168 : (i5_150 + 1).toInt = i5_150.toInt + 1 := mz_addn 1 1 (by decide) (by have := mz_lo i5_150; omega) (by have := mz_hi i5_150; omega)
                  exact (ih150 (i5_150 + 1) T_150 M158 n_150 I159 h_q0_150 (by have := R161.1 32 _ _ rfl; first | omega | decide | exact fun h9 => absurd (by decide) h9) R161 K166 (by have := R161.1 32 _ _ rfl; omega))
            have : (0 : Int32).toInt = 0 := by decide
            exact mv_less (Nat.zero_le _) (Nat.zero_le _) (L70_150 4294967296 0 T75 M141 n74 I142 t81 (by have := R145.1 32 _ _ rfl; first | omega | decide | exact fun h9 => absurd (by decide) h9) R145 K149 (by show (2147483647 - (0 : Int) : Int) < _; decide))
          · refine mv_iload_n d_TrustDeskModel_counts_48 rfl rfl ?_
            refine mv_aload_n d_TrustDeskModel_counts_49 rfl rfl ?_
            refine tr_getK (k := 69) q88 d_TrustDeskModel_counts_50 f_TrustDeskModel_571_13 ?_
            have := mz_hi x2
            have := mz_hi v89
            refine mv_icmp_ltZ (tgt := 57) (a := x2.toInt) (b := v89.toInt) d_TrustDeskModel_counts_53 (by decide) rfl rfl (fun b169 => ?_) (fun b169 => ?_)
            · refine mv_aload_n d_TrustDeskModel_counts_57 rfl rfl ?_
              refine mv_lload_n d_TrustDeskModel_counts_58 rfl rfl ?_
              refine tr_putR (k := 68) I77 R80 t81 rfl ⟨_, rfl⟩ (fun _ h => by cases h) rfl (fun lo hi h => by cases h) (Or.inl (by decide)) d_TrustDeskModel_counts_59 p_TrustDeskModel_574_13 rfl rfl (fun M170 I171 q172 K173 R174 A175 V176 => ?_)
              have z177 := (V176 32 (by decide)).trans z82
              have K178 : ∀ i : Nat, i < 880 → 0 ≤ ra M170 o0 8 i := (by have e9 := ((sA_f A175 (by decide)) : sA [8] _ _ _) 8 rfl; rw [e9]; exact K83)
              clear z82
              refine mv_aload_n d_TrustDeskModel_counts_62 rfl rfl ?_
              refine mv_iload_n d_TrustDeskModel_counts_63 rfl rfl ?_
              refine tr_putR (k := 69) I171 R174 t81 rfl ⟨_, rfl⟩ (fun _ h => by cases h) rfl (fun lo hi h => by cases h) (Or.inl (by decide)) d_TrustDeskModel_counts_64 p_TrustDeskModel_571_13 rfl rfl (fun M179 I180 q181 K182 R183 A184 V185 => ?_)
              have z186 := (V185 32 (by decide)).trans z177
              have K187 : ∀ i : Nat, i < 880 → 0 ≤ ra M179 o0 8 i := (by have e9 := ((sA_f A184 (by decide)) : sA [8] _ _ _) 8 rfl; rw [e9]; exact K178)
              clear z177
              refine mv_iconst (v := 0) d_TrustDeskModel_counts_67 (by decide) ?_
              refine mv_istore (lv' := [(5, .int 0), (3, .long v79), (0, .ref o0), (1, .int x1), (2, .int x2)]) d_TrustDeskModel_counts_68 (by decide) rfl ?_
              have L70_188 : ∀ (k : Nat) (i5_188 : Int32) (T_188 : tm_H) (M_188 : mj_M) (n_188 : Nat), tm_I tm_FT (tm_in w_TrustDeskModel_counts_q7_x) x9 T0 M0 n0 T_188 M_188 n_188 → T_188 o0 = some (0, 13, 0) → 0 ≤ i5_188.toInt → (rI M_188 o0) → (∀ i : Nat, i < 880 → 0 ≤ ra M_188 o0 8 i) → 2147483647 - i5_188.toInt < (k : Int) → mj_V g l kY_TrustDeskModel_counts (d + 10) 70 [(5, .int i5_188), (3, .long v79), (0, .ref o0), (1, .int x1), (2, .int x2)] [] M_188 n_188 0 0 (tm_Q tm_FT (tm_in w_TrustDeskModel_counts_q7_x) x9 T0 M0 n0 (fun r _ M => r = none ∧ rI M o0)) := by
                intro k188
                induction k188 with
                | zero =>
                  intro i5_188 T_188 M_188 n_188 I_188 h_q0_188 iv0_188 kKR_188 kK8_188 hk188
                  have := mz_hi i5_188
                  have := kKR_188.1 15 _ _ rfl
                  have := kKR_188.1 16 _ _ rfl
                  have := kKR_188.1 19 _ _ rfl
                  omega
                | succ k188 ih188 =>
                  intro i5_188 T_188 M_188 n_188 I_188 h_q0_188 iv0_188 kKR_188 kK8_188 hk188
                  refine mv_iload d_TrustDeskModel_counts_70 rfl ?_
                  refine mv_bipush (v := 12) d_TrustDeskModel_counts_72 (by decide) ?_
                  have := mz_hi i5_188
                  refine mv_icmp_geZ (tgt := 97) (a := i5_188.toInt) (b := 12) d_TrustDeskModel_counts_74 (by decide) rfl (by decide) (fun b189 => ?_) (fun b189 => ?_)
                  · exact mv_vret d_TrustDeskModel_counts_97 rfl ⟨_, I_188, rfl, kKR_188⟩
                  · refine mv_aload_n d_TrustDeskModel_counts_77 rfl rfl ?_
                    obtain ⟨a191, q190, t_a191⟩ := tm_atR I_188 h_q0_188 (k := 65) rfl
                    refine tr_getK q190 d_TrustDeskModel_counts_78 f_TrustDeskModel_155_13 ?_
                    refine mv_iload d_TrustDeskModel_counts_81 rfl ?_
                    refine mv_aload_n d_TrustDeskModel_counts_83 rfl rfl ?_
                    obtain ⟨a193, q192, t_a193⟩ := tm_atR I_188 h_q0_188 (k := 64) rfl
                    refine tr_getK q192 d_TrustDeskModel_counts_84 f_TrustDeskModel_152_13 ?_
                    refine mv_iload d_TrustDeskModel_counts_87 rfl ?_
                    refine tr_ialdR (o := o0) (k := 64) I_188 q192 t_a193 (by decide) d_TrustDeskModel_counts_89 (vp_in_iff.mpr (by have := kKR_188.1 32 _ _ rfl; omega)) (fun v194 e195 => ?_)
                    refine tr_iastR (k := 65) I_188 kKR_188 (I_188.up h_o0) q190 t_a191 (by decide) (by decide) (fun lo hi h => by cases h) (Or.inl (by decide)) d_TrustDeskModel_counts_90 (vp_in_iff.mpr (by have := kKR_188.1 32 _ _ rfl; omega)) (fun M196 I197 K198 R199 E200 A201 V202 => ?_)
                    have z203 := (V202 32)
                    have K204 : ∀ i : Nat, i < 880 → 0 ≤ ra M196 o0 8 i := (by have e9 := ((sA_a A201 (by decide +kernel)) : sA [8] _ _ _) 8 rfl; rw [e9]; exact kK8_188)
                    refine mv_iinc (v := (i5_188 + 1)) (lv' := [(5, .int (i5_188 + 1)), (3, .long v79), (0, .ref o0), (1, .int x1), (2, .int x2)]) d_TrustDeskModel_counts_91 rfl rfl (by decide) rfl ?_
                    refine mv_goto (tgt := 70) d_TrustDeskModel_counts_94 (by decide) ?_
                    have b205 : (i5_188 + 1 : Int32).toInt = (i5_188.toInt + 1) := mz_add2 rfl (by decide) (by have := R199.1 32 _ _ rfl; omega) (by have := R199.1 32 _ _ rfl; omega)
                    have b206 : (i5_188 + 1).toInt = i5_188.toInt + 1 := mz_addn 1 1 (by decide) (by have := mz_lo i5_188; omega) (by have := mz_hi i5_188; omega)
                    exact (ih188 (i5_188 + 1) T_188 M196 n_188 I197 h_q0_188 (by have := R199.1 32 _ _ rfl; first | omega | decide | exact fun h9 => absurd (by decide) h9) R199 K204 (by have := R199.1 32 _ _ rfl; omega))
              have : (0 : Int32).toInt = 0 := by decide
              exact mv_less (Nat.zero_le _) (Nat.zero_le _) (L70_188 4294967296 0 T75 M179 n74 I180 t81 (by have := R183.1 32 _ _ rfl; first | omega | decide | exact fun h9 => absurd (by decide) h9) R183 K187 (by show (2147483647 - (0 : Int) : Int) < _; decide))
            · exact mv_vret d_TrustDeskModel_counts_56 rfl ⟨_, I77, rfl, R80⟩
def w_TrustDeskModel_counts_q8_x : List Nat := [1368, 1369, 20064, 20065]
set_option maxHeartbeats 100000000 in theorem tc_TrustDeskModel_counts_q8_x {g : mj_G} {l : Launch} {d : Nat} {T0 : tm_H} {M0 : mj_M} {n0 x9 : Nat} {o0 : Nat} {x1 : Int32} {x2 : Int32} (h_o0 : T0 o0 = some (0, 13, 0)) (yR : rI M0 o0) (y8 : ∀ i : Nat, i < 880 → 0 ≤ ra M0 o0 8 i) (yl : 4 ≤ x1.toInt ∧ x1.toInt ≤ rv M0 o0 32 ∧ 0 ≤ x2.toInt ∧ x2.toInt ≤ x1.toInt) (I0 : tm_I tm_FT (tm_in w_TrustDeskModel_counts_q8_x) x9 T0 M0 n0 T0 M0 n0) : mj_Met g l kY_TrustDeskModel_counts (d + 11) [.ref o0, .int x1, .int x2] M0 n0 0 0 (tm_Q tm_FT (tm_in w_TrustDeskModel_counts_q8_x) x9 T0 M0 n0 (fun r _ M => r = none ∧ rI M o0)) := by
  refine mj_enter (by decide) (Nat.le_of_ble_eq_true rfl) ?_
  have K1 : ∀ i : Nat, i < 880 → 0 ≤ ra M0 o0 8 i := y8
  refine mv_iload_n d_TrustDeskModel_counts_0 rfl rfl ?_
  refine mv_aload_n d_TrustDeskModel_counts_1 rfl rfl ?_
  obtain ⟨v3, q2⟩ := tm_atI I0 h_o0 (k := 32) rfl
  refine tr_getK q2 d_TrustDeskModel_counts_2 f_TrustDeskModel_415_13 ?_
  have := yR.f (k := 32) q2 rfl
  have := tm_rv q2
  have := mz_hi x1
  have := mz_hi v3
  refine mv_icmp_neZ (tgt := 98) (a := x1.toInt) (b := v3.toInt) d_TrustDeskModel_counts_5 (by decide) rfl rfl (fun b4 => ?_) (fun b4 => ?_)
  · refine mv_aload_n d_TrustDeskModel_counts_98 rfl rfl ?_
    obtain ⟨v6, q5⟩ := tm_atI I0 h_o0 (k := 67) rfl
    refine tr_getK q5 d_TrustDeskModel_counts_99 f_TrustDeskModel_560_13 ?_
    refine mv_iload_n d_TrustDeskModel_counts_102 rfl rfl ?_
    refine mv_ishr d_TrustDeskModel_counts_103 ?_
    refine mv_iconst (v := 1) d_TrustDeskModel_counts_104 (by decide) ?_
    refine mv_iand d_TrustDeskModel_counts_105 ?_
    have := mz_hi ((v6 >>> (x1 &&& 31)) &&& 1)
    refine mv_if_neZ (tgt := 118) (a := ((v6 >>> (x1 &&& 31)) &&& 1).toInt) d_TrustDeskModel_counts_106 (by decide) rfl (fun b7 => ?_) (fun b7 => ?_)
    · refine mv_iconst (v := 0) d_TrustDeskModel_counts_118 (by decide) ?_
      refine mv_istore_n (lv' := [(3, .int 0), (0, .ref o0), (1, .int x1), (2, .int x2)]) d_TrustDeskModel_counts_119 rfl (by decide) rfl ?_
      have L120_8 : ∀ (k : Nat) (i3_8 : Int32) (T_8 : tm_H) (M_8 : mj_M) (n_8 : Nat), tm_I tm_FT (tm_in w_TrustDeskModel_counts_q8_x) x9 T0 M0 n0 T_8 M_8 n_8 → T_8 o0 = some (0, 13, 0) → 0 ≤ i3_8.toInt → rv M_8 o0 32 = rv M0 o0 32 → (rI M_8 o0) → (∀ i : Nat, i < 880 → 0 ≤ ra M_8 o0 8 i) → 2147483647 - i3_8.toInt < (k : Int) → mj_V g l kY_TrustDeskModel_counts (d + 11) 120 [(3, .int i3_8), (0, .ref o0), (1, .int x1), (2, .int x2)] [] M_8 n_8 0 0 (tm_Q tm_FT (tm_in w_TrustDeskModel_counts_q8_x) x9 T0 M0 n0 (fun r _ M => r = none ∧ rI M o0)) := by
        intro k8
        induction k8 with
        | zero =>
          intro i3_8 T_8 M_8 n_8 I_8 h_q0_8 iv0_8 iv1_8 kKR_8 kK8_8 hk8
          have := mz_hi i3_8
          have := kKR_8.1 15 _ _ rfl
          have := kKR_8.1 16 _ _ rfl
          have := kKR_8.1 19 _ _ rfl
          omega
        | succ k8 ih8 =>
          intro i3_8 T_8 M_8 n_8 I_8 h_q0_8 iv0_8 iv1_8 kKR_8 kK8_8 hk8
          refine mv_iload_n d_TrustDeskModel_counts_120 rfl rfl ?_
          refine mv_iload_n d_TrustDeskModel_counts_121 rfl rfl ?_
          have := mz_hi i3_8
          have := mz_hi x2
          refine mv_icmp_gtZ (tgt := 163) (a := i3_8.toInt) (b := x2.toInt) d_TrustDeskModel_counts_122 (by decide) rfl rfl (fun b9 => ?_) (fun b9 => ?_)
          · exact mv_vret d_TrustDeskModel_counts_163 rfl ⟨_, I_8, rfl, kKR_8⟩
          · refine mv_iload_n d_TrustDeskModel_counts_125 rfl rfl ?_
            refine mv_bipush (v := 8) d_TrustDeskModel_counts_126 (by decide) ?_
            have := mz_hi i3_8
            refine mv_icmp_geZ (tgt := 163) (a := i3_8.toInt) (b := 8) d_TrustDeskModel_counts_128 (by decide) rfl (by decide) (fun b10 => ?_) (fun b10 => ?_)
            · exact mv_vret d_TrustDeskModel_counts_163 rfl ⟨_, I_8, rfl, kKR_8⟩
            · refine mv_aload_n d_TrustDeskModel_counts_131 rfl rfl ?_
              obtain ⟨a12, q11, t_a12⟩ := tm_atR I_8 h_q0_8 (k := 64) rfl
              refine tr_getK q11 d_TrustDeskModel_counts_132 f_TrustDeskModel_152_13 ?_
              refine mv_iload_n d_TrustDeskModel_counts_135 rfl rfl ?_
              refine mv_iload_n d_TrustDeskModel_counts_136 rfl rfl ?_
              refine tr_iastR (k := 64) I_8 kKR_8 (I_8.up h_o0) q11 t_a12 (by decide) (by decide) (fun lo hi h => by cases h) (Or.inl (by decide)) d_TrustDeskModel_counts_137 (vp_in_iff.mpr (by have := kKR_8.1 32 _ _ rfl; omega)) (fun M13 I14 K15 R16 E17 A18 V19 => ?_)
              have z20 := (V19 32)
              have K21 : ∀ i : Nat, i < 880 → 0 ≤ ra M13 o0 8 i := (by have e9 := ((sA_a A18 (by decide +kernel)) : sA [8] _ _ _) 8 rfl; rw [e9]; exact kK8_8)
              refine mv_aload_n d_TrustDeskModel_counts_138 rfl rfl ?_
              refine mv_iload_n d_TrustDeskModel_counts_139 rfl rfl ?_
              refine mv_iconst (v := 1) d_TrustDeskModel_counts_140 (by decide) ?_
              refine mv_iadd d_TrustDeskModel_counts_141 ?_
              refine mv_iload_n d_TrustDeskModel_counts_142 rfl rfl ?_
              refine mv_iload_n d_TrustDeskModel_counts_143 rfl rfl ?_
              have := mz_hi i3_8
              have := mz_hi x2
              refine mv_icmp_neZ (tgt := 153) (a := i3_8.toInt) (b := x2.toInt) d_TrustDeskModel_counts_144 (by decide) rfl rfl (fun b22 => ?_) (fun b22 => ?_)
              · refine mv_iload_n d_TrustDeskModel_counts_153 rfl rfl ?_
                obtain ⟨_, b29, -⟩ := I14.1 _ _ h_q0_8
                have b30 : (x1 + 1 : Int32).toInt = (x1.toInt + 1) := mz_add2 rfl (by decide) (by have := R16.1 32 _ _ rfl; omega) (by have := R16.1 32 _ _ rfl; omega)
                refine mv_callV (kc' := 0) (ks' := 0) (As := [.int (x1 + 1), .int x2]) (st9 := [.int x2, .int (x1 + 1), .ref o0]) d_TrustDeskModel_counts_154 lV_TrustDeskModel_578 b29 rfl (tc_TrustDeskModel_counts_q7_x (d := d) (x9 := x9) (o0 := o0) (x1 := (x1 + 1)) (x2 := x2) h_q0_8 R16 K21 (by have := R16.1 32 _ _ rfl; omega) I14.start) rfl (Nat.le_of_ble_eq_true rfl) (Nat.le_of_ble_eq_true rfl) (Nat.le_of_ble_eq_true rfl) (hst := rfl) (fun b23r M24 n25 b23 => ?_)
                obtain ⟨T26, J27, rfl, R31⟩ := b23
                have I28 := I14.call J27 (tm_sub (by decide)) (Or.inl rfl)
                have t32 := J27.up h_q0_8
                have z33 := (rv_c I14 J27 (I14.up h_o0) (k := 32) rfl).trans z20
                have K34 : ∀ i : Nat, i < 880 → 0 ≤ ra M24 o0 8 i := (by have e9 := ((sA_c I14 J27 (I14.up h_o0) (by decide +kernel)) : sA [8] _ _ _) 8 rfl; rw [e9]; exact K21)
                clear z20
                have q35 := J27.keep h_q0_8 (by decide) (K15 _ 13 64 _ q11)
                have t36 := J27.up t_a12
                refine mv_iinc (v := (i3_8 + 1)) (lv' := [(3, .int (i3_8 + 1)), (0, .ref o0), (1, .int x1), (2, .int x2)]) d_TrustDeskModel_counts_157 rfl rfl (by decide) rfl ?_
                refine mv_goto (tgt := 120) d_TrustDeskModel_counts_160 (by decide) ?_
                have b37 : (i3_8 + 1 : Int32).toInt = (i3_8.toInt + 1) := mz_add2 rfl (by decide) (by have := R31.1 32 _ _ rfl; omega) (by have := R31.1 32 _ _ rfl; omega)
                have b38 : (i3_8 + 1).toInt = i3_8.toInt + 1 := mz_addn 1 1 (by decide) (by have := mz_lo i3_8; omega) (by have := mz_hi i3_8; omega)
                exact (ih8 (i3_8 + 1) T26 M24 n25 I28 t32 (by have := R31.1 32 _ _ rfl; first | omega | decide | exact fun h9 => absurd (by decide) h9) (by have := R31.1 32 _ _ rfl; first | omega | decide | exact fun h9 => absurd (by decide) h9) R31 K34 (by have := R31.1 32 _ _ rfl; omega))
              · refine mv_iload_n d_TrustDeskModel_counts_147 rfl rfl ?_
                refine mv_iconst (v := 1) d_TrustDeskModel_counts_148 (by decide) ?_
                refine mv_iadd d_TrustDeskModel_counts_149 ?_
                refine mv_goto (tgt := 154) d_TrustDeskModel_counts_150 (by decide) ?_
                obtain ⟨_, b45, -⟩ := I14.1 _ _ h_q0_8
                have b46 : (x1 + 1 : Int32).toInt = (x1.toInt + 1) := mz_add2 rfl (by decide) (by have := R16.1 32 _ _ rfl; omega) (by have := R16.1 32 _ _ rfl; omega)
                have b47 : (x2 + 1 : Int32).toInt = (x2.toInt + 1) := mz_add2 rfl (by decide) (by have := R16.1 32 _ _ rfl; omega) (by have := R16.1 32 _ _ rfl; omega)
                refine mv_callV (kc' := 0) (ks' := 0) (As := [.int (x1 + 1), .int (x2 + 1)]) (st9 := [.int (x2 + 1), .int (x1 + 1), .ref o0]) d_TrustDeskModel_counts_154 lV_TrustDeskModel_578 b45 rfl (tc_TrustDeskModel_counts_q7_x (d := d) (x9 := x9) (o0 := o0) (x1 := (x1 + 1)) (x2 := (x2 + 1)) h_q0_8 R16 K21 (by have := R16.1 32 _ _ rfl; omega) I14.start) rfl (Nat.le_of_ble_eq_true rfl) (Nat.le_of_ble_eq_true rfl) (Nat.le_of_ble_eq_true rfl) (hst := rfl) (fun b39r M40 n41 b39 => ?_)
                obtain ⟨T42, J43, rfl, R48⟩ := b39
                have I44 := I14.call J43 (tm_sub (by decide)) (Or.inl rfl)
                have t49 := J43.up h_q0_8
                have z50 := (rv_c I14 J43 (I14.up h_o0) (k := 32) rfl).trans z20
                have K51 : ∀ i : Nat, i < 880 → 0 ≤ ra M40 o0 8 i := (by have e9 := ((sA_c I14 J43 (I14.up h_o0) (by decide +kernel)) : sA [8] _ _ _) 8 rfl; rw [e9]; exact K21)
                clear z20
                have q52 := J43.keep h_q0_8 (by decide) (K15 _ 13 64 _ q11)
                have t53 := J43.up t_a12
                refine mv_iinc (v := (i3_8 + 1)) (lv' := [(3, .int (i3_8 + 1)), (0, .ref o0), (1, .int x1), (2, .int x2)]) d_TrustDeskModel_counts_157 rfl rfl (by decide) rfl ?_
                refine mv_goto (tgt := 120) d_TrustDeskModel_counts_160 (by decide) ?_
                have b54 : (i3_8 + 1 : Int32).toInt = (i3_8.toInt + 1) := mz_add2 rfl (by decide) (by have := R48.1 32 _ _ rfl; omega) (by have := R48.1 32 _ _ rfl; omega)
                have b55 : (i3_8 + 1).toInt = i3_8.toInt + 1 := mz_addn 1 1 (by decide) (by have := mz_lo i3_8; omega) (by have := mz_hi i3_8; omega)
                exact (ih8 (i3_8 + 1) T42 M40 n41 I44 t49 (by have := R48.1 32 _ _ rfl; first | omega | decide | exact fun h9 => absurd (by decide) h9) (by have := R48.1 32 _ _ rfl; first | omega | decide | exact fun h9 => absurd (by decide) h9) R48 K51 (by have := R48.1 32 _ _ rfl; omega))
      have : (0 : Int32).toInt = 0 := by decide
      exact mv_less (Nat.zero_le _) (Nat.zero_le _) (L120_8 4294967296 0 T0 M0 n0 I0 h_o0 (by have := yR.1 32 _ _ rfl; first | omega | decide | exact fun h9 => absurd (by decide) h9) (by have := yR.1 32 _ _ rfl; first | omega | decide | exact fun h9 => absurd (by decide) h9) yR K1 (by show (2147483647 - (0 : Int) : Int) < _; decide))
    · refine mv_aload_n d_TrustDeskModel_counts_109 rfl rfl ?_
      refine mv_iload_n d_TrustDeskModel_counts_110 rfl rfl ?_
      refine mv_iconst (v := 1) d_TrustDeskModel_counts_111 (by decide) ?_
      refine mv_iadd d_TrustDeskModel_counts_112 ?_
      refine mv_iload_n d_TrustDeskModel_counts_113 rfl rfl ?_
      obtain ⟨_, b62, -⟩ := I0.1 _ _ h_o0
      have b63 : (x1 + 1 : Int32).toInt = (x1.toInt + 1) := mz_add2 rfl (by decide) (by have := yR.1 32 _ _ rfl; omega) (by have := yR.1 32 _ _ rfl; omega)
      refine mv_callV (kc' := 0) (ks' := 0) (As := [.int (x1 + 1), .int x2]) (st9 := [.int x2, .int (x1 + 1), .ref o0]) d_TrustDeskModel_counts_114 lV_TrustDeskModel_578 b62 rfl (tc_TrustDeskModel_counts_q7_x (d := d) (x9 := x9) (o0 := o0) (x1 := (x1 + 1)) (x2 := x2) h_o0 yR K1 (by have := yR.1 32 _ _ rfl; omega) I0.start) rfl (Nat.le_of_ble_eq_true rfl) (Nat.le_of_ble_eq_true rfl) (Nat.le_of_ble_eq_true rfl) (hst := rfl) (fun b56r M57 n58 b56 => ?_)
      obtain ⟨T59, J60, rfl, R64⟩ := b56
      have I61 := I0.call J60 (tm_sub (by decide)) (Or.inl rfl)
      have t65 := J60.up h_o0
      have z66 := (rv_c I0 J60 (I0.up h_o0) (k := 32) rfl)
      have K67 : ∀ i : Nat, i < 880 → 0 ≤ ra M57 o0 8 i := (by have e9 := ((sA_c I0 J60 (I0.up h_o0) (by decide +kernel)) : sA [8] _ _ _) 8 rfl; rw [e9]; exact K1)
      have q68 := J60.keep h_o0 (by decide) q2
      have q69 := J60.keep h_o0 (by decide) q5
      exact mv_vret d_TrustDeskModel_counts_117 rfl ⟨_, I61, rfl, R64⟩
  · refine mv_aload_n d_TrustDeskModel_counts_8 rfl rfl ?_
    refine mv_aload_n d_TrustDeskModel_counts_9 rfl rfl ?_
    obtain ⟨a71, q70, t_a71⟩ := tm_atR I0 h_o0 (k := 64) rfl
    refine tr_getK q70 d_TrustDeskModel_counts_10 f_TrustDeskModel_152_13 ?_
    obtain ⟨_, b78, -⟩ := I0.1 _ _ h_o0
    refine mv_callV (kc' := 0) (ks' := 0) (As := [.ref a71]) (st9 := [.ref a71, .ref o0]) d_TrustDeskModel_counts_13 lV_TrustDeskModel_567 b78 rfl (tc_TrustDeskModel_idle_q64_x (d := (d + 8)) (x9 := x9) (o0 := o0) (o1 := a71) h_o0 t_a71 yR K1 I0.start) rfl (Nat.le_of_ble_eq_true rfl) (Nat.le_of_ble_eq_true rfl) (Nat.le_of_ble_eq_true rfl) (hst := rfl) (fun b72r M73 n74 b72 => ?_)
    obtain ⟨T75, J76, v79, rfl, R80⟩ := b72
    have I77 := I0.call J76 (tm_sub (by decide)) (Or.inl rfl)
    have t81 := J76.up h_o0
    have z82 := (rv_c I0 J76 (I0.up h_o0) (k := 32) rfl)
    have K83 : ∀ i : Nat, i < 880 → 0 ≤ ra M73 o0 8 i := (by have e9 := ((sA_c I0 J76 (I0.up h_o0) (by decide +kernel)) : sA [8] _ _ _) 8 rfl; rw [e9]; exact K1)
    have q84 := J76.keep h_o0 (by decide) q2
    have q85 := J76.keep h_o0 (by decide) q70
    have t86 := J76.up t_a71
    refine mv_lstore_n (lv' := [(3, .long v79), (0, .ref o0), (1, .int x1), (2, .int x2)]) d_TrustDeskModel_counts_16 rfl (by decide) rfl ?_
    refine mv_lload_n d_TrustDeskModel_counts_17 rfl rfl ?_
    refine mv_lconst (v := 0) d_TrustDeskModel_counts_18 (by decide) ?_
    refine mv_lltZ (tgt := 56) (a := v79.toInt) (b := 0) d_TrustDeskModel_counts_19 d_TrustDeskModel_counts_20 (by decide) rfl (by decide) (fun b87 => ?_) (fun b87 => ?_)
    · exact mv_vret d_TrustDeskModel_counts_56 rfl ⟨_, I77, rfl, R80⟩
    · refine mv_aload_n d_TrustDeskModel_counts_23 rfl rfl ?_
      obtain ⟨v89, q88⟩ := tm_atI I77 t81 (k := 69) rfl
      refine tr_getK q88 d_TrustDeskModel_counts_24 f_TrustDeskModel_571_13 ?_
      have := mz_hi v89
      refine mv_if_eqZ (tgt := 57) (a := v89.toInt) d_TrustDeskModel_counts_27 (by decide) rfl (fun b90 => ?_) (fun b90 => ?_)
      · refine mv_aload_n d_TrustDeskModel_counts_57 rfl rfl ?_
        refine mv_lload_n d_TrustDeskModel_counts_58 rfl rfl ?_
        refine tr_putR (k := 68) I77 R80 t81 rfl ⟨_, rfl⟩ (fun _ h => by cases h) rfl (fun lo hi h => by cases h) (Or.inl (by decide)) d_TrustDeskModel_counts_59 p_TrustDeskModel_574_13 rfl rfl (fun M91 I92 q93 K94 R95 A96 V97 => ?_)
        have z98 := (V97 32 (by decide)).trans z82
        have K99 : ∀ i : Nat, i < 880 → 0 ≤ ra M91 o0 8 i := (by have e9 := ((sA_f A96 (by decide)) : sA [8] _ _ _) 8 rfl; rw [e9]; exact K83)
        clear z82
        refine mv_aload_n d_TrustDeskModel_counts_62 rfl rfl ?_
        refine mv_iload_n d_TrustDeskModel_counts_63 rfl rfl ?_
        refine tr_putR (k := 69) I92 R95 t81 rfl ⟨_, rfl⟩ (fun _ h => by cases h) rfl (fun lo hi h => by cases h) (Or.inl (by decide)) d_TrustDeskModel_counts_64 p_TrustDeskModel_571_13 rfl rfl (fun M100 I101 q102 K103 R104 A105 V106 => ?_)
        have z107 := (V106 32 (by decide)).trans z98
        have K108 : ∀ i : Nat, i < 880 → 0 ≤ ra M100 o0 8 i := (by have e9 := ((sA_f A105 (by decide)) : sA [8] _ _ _) 8 rfl; rw [e9]; exact K99)
        clear z98
        refine mv_iconst (v := 0) d_TrustDeskModel_counts_67 (by decide) ?_
        refine mv_istore (lv' := [(5, .int 0), (3, .long v79), (0, .ref o0), (1, .int x1), (2, .int x2)]) d_TrustDeskModel_counts_68 (by decide) rfl ?_
        have L70_109 : ∀ (k : Nat) (i5_109 : Int32) (T_109 : tm_H) (M_109 : mj_M) (n_109 : Nat), tm_I tm_FT (tm_in w_TrustDeskModel_counts_q8_x) x9 T0 M0 n0 T_109 M_109 n_109 → T_109 o0 = some (0, 13, 0) → 0 ≤ i5_109.toInt → (rI M_109 o0) → (∀ i : Nat, i < 880 → 0 ≤ ra M_109 o0 8 i) → 2147483647 - i5_109.toInt < (k : Int) → mj_V g l kY_TrustDeskModel_counts (d + 11) 70 [(5, .int i5_109), (3, .long v79), (0, .ref o0), (1, .int x1), (2, .int x2)] [] M_109 n_109 0 0 (tm_Q tm_FT (tm_in w_TrustDeskModel_counts_q8_x) x9 T0 M0 n0 (fun r _ M => r = none ∧ rI M o0)) := by
          intro k109
          induction k109 with
          | zero =>
            intro i5_109 T_109 M_109 n_109 I_109 h_q0_109 iv0_109 kKR_109 kK8_109 hk109
            have := mz_hi i5_109
            have := kKR_109.1 15 _ _ rfl
            have := kKR_109.1 16 _ _ rfl
            have := kKR_109.1 19 _ _ rfl
            omega
          | succ k109 ih109 =>
            intro i5_109 T_109 M_109 n_109 I_109 h_q0_109 iv0_109 kKR_109 kK8_109 hk109
            refine mv_iload d_TrustDeskModel_counts_70 rfl ?_
            refine mv_bipush (v := 12) d_TrustDeskModel_counts_72 (by decide) ?_
            have := mz_hi i5_109
            refine mv_icmp_geZ (tgt := 97) (a := i5_109.toInt) (b := 12) d_TrustDeskModel_counts_74 (by decide) rfl (by decide) (fun b110 => ?_) (fun b110 => ?_)
            · exact mv_vret d_TrustDeskModel_counts_97 rfl ⟨_, I_109, rfl, kKR_109⟩
            · refine mv_aload_n d_TrustDeskModel_counts_77 rfl rfl ?_
              obtain ⟨a112, q111, t_a112⟩ := tm_atR I_109 h_q0_109 (k := 65) rfl
              refine tr_getK q111 d_TrustDeskModel_counts_78 f_TrustDeskModel_155_13 ?_
              refine mv_iload d_TrustDeskModel_counts_81 rfl ?_
              refine mv_aload_n d_TrustDeskModel_counts_83 rfl rfl ?_
              obtain ⟨a114, q113, t_a114⟩ := tm_atR I_109 h_q0_109 (k := 64) rfl
              refine tr_getK q113 d_TrustDeskModel_counts_84 f_TrustDeskModel_152_13 ?_
              refine mv_iload d_TrustDeskModel_counts_87 rfl ?_
              refine tr_ialdR (o := o0) (k := 64) I_109 q113 t_a114 (by decide) d_TrustDeskModel_counts_89 (vp_in_iff.mpr (by have := kKR_109.1 32 _ _ rfl; omega)) (fun v115 e116 => ?_)
              refine tr_iastR (k := 65) I_109 kKR_109 (I_109.up h_o0) q111 t_a112 (by decide) (by decide) (fun lo hi h => by cases h) (Or.inl (by decide)) d_TrustDeskModel_counts_90 (vp_in_iff.mpr (by have := kKR_109.1 32 _ _ rfl; omega)) (fun M117 I118 K119 R120 E121 A122 V123 => ?_)
              have z124 := (V123 32)
              have K125 : ∀ i : Nat, i < 880 → 0 ≤ ra M117 o0 8 i := (by have e9 := ((sA_a A122 (by decide +kernel)) : sA [8] _ _ _) 8 rfl; rw [e9]; exact kK8_109)
              refine mv_iinc (v := (i5_109 + 1)) (lv' := [(5, .int (i5_109 + 1)), (3, .long v79), (0, .ref o0), (1, .int x1), (2, .int x2)]) d_TrustDeskModel_counts_91 rfl rfl (by decide) rfl ?_
              refine mv_goto (tgt := 70) d_TrustDeskModel_counts_94 (by decide) ?_
              have b126 : (i5_109 + 1 : Int32).toInt = (i5_109.toInt + 1) := mz_add2 rfl (by decide) (by have := R120.1 32 _ _ rfl; omega) (by have := R120.1 32 _ _ rfl; omega)
              have b127 : (i5_109 + 1).toInt = i5_109.toInt + 1 := mz_addn 1 1 (by decide) (by have := mz_lo i5_109; omega) (by have := mz_hi i5_109; omega)
              exact (ih109 (i5_109 + 1) T_109 M117 n_109 I118 h_q0_109 (by have := R120.1 32 _ _ rfl; first | omega | decide | exact fun h9 => absurd (by decide) h9) R120 K125 (by have := R120.1 32 _ _ rfl; omega))
        have : (0 : Int32).toInt = 0 := by decide
        exact mv_less (Nat.zero_le _) (Nat.zero_le _) (L70_109 4294967296 0 T75 M100 n74 I101 t81 (by have := R104.1 32 _ _ rfl; first | omega | decide | exact fun h9 => absurd (by decide) h9) R104 K108 (by show (2147483647 - (0 : Int) : Int) < _; decide))
      · refine mv_lload_n d_TrustDeskModel_counts_30 rfl rfl ?_
        refine mv_aload_n d_TrustDeskModel_counts_31 rfl rfl ?_
        obtain ⟨v129, q128⟩ := tm_atL I77 t81 (k := 68) rfl
        refine tr_getK q128 d_TrustDeskModel_counts_32 f_TrustDeskModel_574_13 ?_
        refine mv_lgtZ (tgt := 56) (a := v79.toInt) (b := v129.toInt) d_TrustDeskModel_counts_35 d_TrustDeskModel_counts_36 (by decide) rfl rfl (fun b130 => ?_) (fun b130 => ?_)
        · exact mv_vret d_TrustDeskModel_counts_56 rfl ⟨_, I77, rfl, R80⟩
        · refine mv_lload_n d_TrustDeskModel_counts_39 rfl rfl ?_
          refine mv_aload_n d_TrustDeskModel_counts_40 rfl rfl ?_
          refine tr_getK (k := 68) q128 d_TrustDeskModel_counts_41 f_TrustDeskModel_574_13 ?_
          refine mv_lneZ (tgt := 57) (a := v79.toInt) (b := v129.toInt) d_TrustDeskModel_counts_44 d_TrustDeskModel_counts_45 (by decide) rfl rfl (fun b131 => ?_) (fun b131 => ?_)
          · refine mv_aload_n d_TrustDeskModel_counts_57 rfl rfl ?_
            refine mv_lload_n d_TrustDeskModel_counts_58 rfl rfl ?_
            refine tr_putR (k := 68) I77 R80 t81 rfl ⟨_, rfl⟩ (fun _ h => by cases h) rfl (fun lo hi h => by cases h) (Or.inl (by decide)) d_TrustDeskModel_counts_59 p_TrustDeskModel_574_13 rfl rfl (fun M132 I133 q134 K135 R136 A137 V138 => ?_)
            have z139 := (V138 32 (by decide)).trans z82
            have K140 : ∀ i : Nat, i < 880 → 0 ≤ ra M132 o0 8 i := (by have e9 := ((sA_f A137 (by decide)) : sA [8] _ _ _) 8 rfl; rw [e9]; exact K83)
            clear z82
            refine mv_aload_n d_TrustDeskModel_counts_62 rfl rfl ?_
            refine mv_iload_n d_TrustDeskModel_counts_63 rfl rfl ?_
            refine tr_putR (k := 69) I133 R136 t81 rfl ⟨_, rfl⟩ (fun _ h => by cases h) rfl (fun lo hi h => by cases h) (Or.inl (by decide)) d_TrustDeskModel_counts_64 p_TrustDeskModel_571_13 rfl rfl (fun M141 I142 q143 K144 R145 A146 V147 => ?_)
            have z148 := (V147 32 (by decide)).trans z139
            have K149 : ∀ i : Nat, i < 880 → 0 ≤ ra M141 o0 8 i := (by have e9 := ((sA_f A146 (by decide)) : sA [8] _ _ _) 8 rfl; rw [e9]; exact K140)
            clear z139
            refine mv_iconst (v := 0) d_TrustDeskModel_counts_67 (by decide) ?_
            refine mv_istore (lv' := [(5, .int 0), (3, .long v79), (0, .ref o0), (1, .int x1), (2, .int x2)]) d_TrustDeskModel_counts_68 (by decide) rfl ?_
            have L70_150 : ∀ (k : Nat) (i5_150 : Int32) (T_150 : tm_H) (M_150 : mj_M) (n_150 : Nat), tm_I tm_FT (tm_in w_TrustDeskModel_counts_q8_x) x9 T0 M0 n0 T_150 M_150 n_150 → T_150 o0 = some (0, 13, 0) → 0 ≤ i5_150.toInt → (rI M_150 o0) → (∀ i : Nat, i < 880 → 0 ≤ ra M_150 o0 8 i) → 2147483647 - i5_150.toInt < (k : Int) → mj_V g l kY_TrustDeskModel_counts (d + 11) 70 [(5, .int i5_150), (3, .long v79), (0, .ref o0), (1, .int x1), (2, .int x2)] [] M_150 n_150 0 0 (tm_Q tm_FT (tm_in w_TrustDeskModel_counts_q8_x) x9 T0 M0 n0 (fun r _ M => r = none ∧ rI M o0)) := by
              intro k150
              induction k150 with
              | zero =>
                intro i5_150 T_150 M_150 n_150 I_150 h_q0_150 iv0_150 kKR_150 kK8_150 hk150
                have := mz_hi i5_150
                have := kKR_150.1 15 _ _ rfl
                have := kKR_150.1 16 _ _ rfl
                have := kKR_150.1 19 _ _ rfl
                omega
              | succ k150 ih150 =>
                intro i5_150 T_150 M_150 n_150 I_150 h_q0_150 iv0_150 kKR_150 kK8_150 hk150
                refine mv_iload d_TrustDeskModel_counts_70 rfl ?_
                refine mv_bipush (v := 12) d_TrustDeskModel_counts_72 (by decide) ?_
                have := mz_hi i5_150
                refine mv_icmp_geZ (tgt := 97) (a := i5_150.toInt) (b := 12) d_TrustDeskModel_counts_74 (by decide) rfl (by decide) (fun b151 => ?_) (fun b151 => ?_)
                · exact mv_vret d_TrustDeskModel_counts_97 rfl ⟨_, I_150, rfl, kKR_150⟩
                · refine mv_aload_n d_TrustDeskModel_counts_77 rfl rfl ?_
                  obtain ⟨a153, q152, t_a153⟩ := tm_atR I_150 h_q0_150 (k := 65) rfl
                  refine tr_getK q152 d_TrustDeskModel_counts_78 f_TrustDeskModel_155_13 ?_
                  refine mv_iload d_TrustDeskModel_counts_81 rfl ?_
                  refine mv_aload_n d_TrustDeskModel_counts_83 rfl rfl ?_
                  obtain ⟨a155, q154, t_a155⟩ := tm_atR I_150 h_q0_150 (k := 64) rfl
                  refine tr_getK q154 d_TrustDeskModel_counts_84 f_TrustDeskModel_152_13 ?_
                  refine mv_iload d_TrustDeskModel_counts_87 rfl ?_
                  refine tr_ialdR (o := o0) (k := 64) I_150 q154 t_a155 (by decide) d_TrustDeskModel_counts_89 (vp_in_iff.mpr (by have := kKR_150.1 32 _ _ rfl; omega)) (fun v156 e157 => ?_)
                  refine tr_iastR (k := 65) I_150 kKR_150 (I_150.up h_o0) q152 t_a153 (by decide) (by decide) (fun lo hi h => by cases h) (Or.inl (by decide)) d_TrustDeskModel_counts_90 (vp_in_iff.mpr (by have := kKR_150.1 32 _ _ rfl; omega)) (fun M158 I159 K160 R161 E162 A163 V164 => ?_)
                  have z165 := (V164 32)
                  have K166 : ∀ i : Nat, i < 880 → 0 ≤ ra M158 o0 8 i := (by have e9 := ((sA_a A163 (by decide +kernel)) : sA [8] _ _ _) 8 rfl; rw [e9]; exact kK8_150)
                  refine mv_iinc (v := (i5_150 + 1)) (lv' := [(5, .int (i5_150 + 1)), (3, .long v79), (0, .ref o0), (1, .int x1), (2, .int x2)]) d_TrustDeskModel_counts_91 rfl rfl (by decide) rfl ?_
                  refine mv_goto (tgt := 70) d_TrustDeskModel_counts_94 (by decide) ?_
                  have b167 : (i5_150 + 1 : Int32).toInt = (i5_150.toInt + 1) := mz_add2 rfl (by decide) (by have := R161.1 32 _ _ rfl; omega) (by have := R161.1 32 _ _ rfl; omega)
                  have b168 : (i5_150 + 1).toInt = i5_150.toInt + 1 := mz_addn 1 1 (by decide) (by have := mz_lo i5_150; omega) (by have := mz_hi i5_150; omega)
                  exact (ih150 (i5_150 + 1) T_150 M158 n_150 I159 h_q0_150 (by have := R161.1 32 _ _ rfl; first | omega | decide | exact fun h9 => absurd (by decide) h9) R161 K166 (by have := R161.1 32 _ _ rfl; omega))
            have : (0 : Int32).toInt = 0 := by decide
            exact mv_less (Nat.zero_le _) (Nat.zero_le _) (L70_150 4294967296 0 T75 M141 n74 I142 t81 (by have := R145.1 32 _ _ rfl; first | omega | decide | exact fun h9 => absurd (by decide) h9) R145 K149 (by show (2147483647 - (0 : Int) : Int) < _; decide))
          · refine mv_iload_n d_TrustDeskModel_counts_48 rfl rfl ?_
            refine mv_aload_n d_TrustDeskModel_counts_49 rfl rfl ?_
            refine tr_getK (k := 69) q88 d_TrustDeskModel_counts_50 f_TrustDeskModel_571_13 ?_
            have := mz_hi x2
            have := mz_hi v89
            refine mv_icmp_ltZ (tgt := 57) (a := x2.toInt) (b := v89.toInt) d_TrustDeskModel_counts_53 (by decide) rfl rfl (fun b169 => ?_) (fun b169 => ?_)
            · refine mv_aload_n d_TrustDeskModel_counts_57 rfl rfl ?_
              refine mv_lload_n d_TrustDeskModel_counts_58 rfl rfl ?_
              refine tr_putR (k := 68) I77 R80 t81 rfl ⟨_, rfl⟩ (fun _ h => by cases h) rfl (fun lo hi h => by cases h) (Or.inl (by decide)) d_TrustDeskModel_counts_59 p_TrustDeskModel_574_13 rfl rfl (fun M170 I171 q172 K173 R174 A175 V176 => ?_)
              have z177 := (V176 32 (by decide)).trans z82
              have K178 : ∀ i : Nat, i < 880 → 0 ≤ ra M170 o0 8 i := (by have e9 := ((sA_f A175 (by decide)) : sA [8] _ _ _) 8 rfl; rw [e9]; exact K83)
              clear z82
              refine mv_aload_n d_TrustDeskModel_counts_62 rfl rfl ?_
              refine mv_iload_n d_TrustDeskModel_counts_63 rfl rfl ?_
              refine tr_putR (k := 69) I171 R174 t81 rfl ⟨_, rfl⟩ (fun _ h => by cases h) rfl (fun lo hi h => by cases h) (Or.inl (by decide)) d_TrustDeskModel_counts_64 p_TrustDeskModel_571_13 rfl rfl (fun M179 I180 q181 K182 R183 A184 V185 => ?_)
              have z186 := (V185 32 (by decide)).trans z177
              have K187 : ∀ i : Nat, i < 880 → 0 ≤ ra M179 o0 8 i := (by have e9 := ((sA_f A184 (by decide)) : sA [8] _ _ _) 8 rfl; rw [e9]; exact K178)
              clear z177
              refine mv_iconst (v := 0) d_TrustDeskModel_counts_67 (by decide) ?_
              refine mv_istore (lv' := [(5, .int 0), (3, .long v79), (0, .ref o0), (1, .int x1), (2, .int x2)]) d_TrustDeskModel_counts_68 (by decide) rfl ?_
              have L70_188 : ∀ (k : Nat) (i5_188 : Int32) (T_188 : tm_H) (M_188 : mj_M) (n_188 : Nat), tm_I tm_FT (tm_in w_TrustDeskModel_counts_q8_x) x9 T0 M0 n0 T_188 M_188 n_188 → T_188 o0 = some (0, 13, 0) → 0 ≤ i5_188.toInt → (rI M_188 o0) → (∀ i : Nat, i < 880 → 0 ≤ ra M_188 o0 8 i) → 2147483647 - i5_188.toInt < (k : Int) → mj_V g l kY_TrustDeskModel_counts (d + 11) 70 [(5, .int i5_188), (3, .long v79), (0, .ref o0), (1, .int x1), (2, .int x2)] [] M_188 n_188 0 0 (tm_Q tm_FT (tm_in w_TrustDeskModel_counts_q8_x) x9 T0 M0 n0 (fun r _ M => r = none ∧ rI M o0)) := by
                intro k188
                induction k188 with
                | zero =>
                  intro i5_188 T_188 M_188 n_188 I_188 h_q0_188 iv0_188 kKR_188 kK8_188 hk188
                  have := mz_hi i5_188
                  have := kKR_188.1 15 _ _ rfl
                  have := kKR_188.1 16 _ _ rfl
                  have := kKR_188.1 19 _ _ rfl
                  omega
                | succ k188 ih188 =>
                  intro i5_188 T_188 M_188 n_188 I_188 h_q0_188 iv0_188 kKR_188 kK8_188 hk188
                  refine mv_iload d_TrustDeskModel_counts_70 rfl ?_
                  refine mv_bipush (v := 12) d_TrustDeskModel_counts_72 (by decide) ?_
                  have := mz_hi i5_188
                  refine mv_icmp_geZ (tgt := 97) (a := i5_188.toInt) (b := 12) d_TrustDeskModel_counts_74 (by decide) rfl (by decide) (fun b189 => ?_) (fun b189 => ?_)
                  · exact mv_vret d_TrustDeskModel_counts_97 rfl ⟨_, I_188, rfl, kKR_188⟩
                  · refine mv_aload_n d_TrustDeskModel_counts_77 rfl rfl ?_
                    obtain ⟨a191, q190, t_a191⟩ := tm_atR I_188 h_q0_188 (k := 65) rfl
                    refine tr_getK q190 d_TrustDeskModel_counts_78 f_TrustDeskModel_155_13 ?_
                    refine mv_iload d_TrustDeskModel_counts_81 rfl ?_
                    refine mv_aload_n d_TrustDeskModel_counts_83 rfl rfl ?_
                    obtain ⟨a193, q192, t_a193⟩ := tm_atR I_188 h_q0_188 (k := 64) rfl
                    refine tr_getK q192 d_TrustDeskModel_counts_84 f_TrustDeskModel_152_13 ?_
                    refine mv_iload d_TrustDeskModel_counts_87 rfl ?_
                    refine tr_ialdR (o := o0) (k := 64) I_188 q192 t_a193 (by decide) d_TrustDeskModel_counts_89 (vp_in_iff.mpr (by have := kKR_188.1 32 _ _ rfl; omega)) (fun v194 e195 => ?_)
                    refine tr_iastR (k := 65) I_188 kKR_188 (I_188.up h_o0) q190 t_a191 (by decide) (by decide) (fun lo hi h => by cases h) (Or.inl (by decide)) d_TrustDeskModel_counts_90 (vp_in_iff.mpr (by have := kKR_188.1 32 _ _ rfl; omega)) (fun M196 I197 K198 R199 E200 A201 V202 => ?_)
                    have z203 := (V202 32)
                    have K204 : ∀ i : Nat, i < 880 → 0 ≤ ra M196 o0 8 i := (by have e9 := ((sA_a A201 (by decide +kernel)) : sA [8] _ _ _) 8 rfl; rw [e9]; exact kK8_188)
                    refine mv_iinc (v := (i5_188 + 1)) (lv' := [(5, .int (i5_188 + 1)), (3, .long v79), (0, .ref o0), (1, .int x1), (2, .int x2)]) d_TrustDeskModel_counts_91 rfl rfl (by decide) rfl ?_
                    refine mv_goto (tgt := 70) d_TrustDeskModel_counts_94 (by decide) ?_
                    have b205 : (i5_188 + 1 : Int32).toInt = (i5_188.toInt + 1) := mz_add2 rfl (by decide) (by have := R199.1 32 _ _ rfl; omega) (by have := R199.1 32 _ _ rfl; omega)
                    have b206 : (i5_188 + 1).toInt = i5_188.toInt + 1 := mz_addn 1 1 (by decide) (by have := mz_lo i5_188; omega) (by have := mz_hi i5_188; omega)
                    exact (ih188 (i5_188 + 1) T_188 M196 n_188 I197 h_q0_188 (by have := R199.1 32 _ _ rfl; first | omega | decide | exact fun h9 => absurd (by decide) h9) R199 K204 (by have := R199.1 32 _ _ rfl; omega))
              have : (0 : Int32).toInt = 0 := by decide
              exact mv_less (Nat.zero_le _) (Nat.zero_le _) (L70_188 4294967296 0 T75 M179 n74 I180 t81 (by have := R183.1 32 _ _ rfl; first | omega | decide | exact fun h9 => absurd (by decide) h9) R183 K187 (by show (2147483647 - (0 : Int) : Int) < _; decide))
            · exact mv_vret d_TrustDeskModel_counts_56 rfl ⟨_, I77, rfl, R80⟩
def w_TrustDeskModel_counts_q9_x : List Nat := [1368, 1369, 20064, 20065]
set_option maxHeartbeats 100000000 in theorem tc_TrustDeskModel_counts_q9_x {g : mj_G} {l : Launch} {d : Nat} {T0 : tm_H} {M0 : mj_M} {n0 x9 : Nat} {o0 : Nat} {x1 : Int32} {x2 : Int32} (h_o0 : T0 o0 = some (0, 13, 0)) (yR : rI M0 o0) (y8 : ∀ i : Nat, i < 880 → 0 ≤ ra M0 o0 8 i) (yl : 3 ≤ x1.toInt ∧ x1.toInt ≤ rv M0 o0 32 ∧ 0 ≤ x2.toInt ∧ x2.toInt ≤ x1.toInt) (I0 : tm_I tm_FT (tm_in w_TrustDeskModel_counts_q9_x) x9 T0 M0 n0 T0 M0 n0) : mj_Met g l kY_TrustDeskModel_counts (d + 12) [.ref o0, .int x1, .int x2] M0 n0 0 0 (tm_Q tm_FT (tm_in w_TrustDeskModel_counts_q9_x) x9 T0 M0 n0 (fun r _ M => r = none ∧ rI M o0)) := by
  refine mj_enter (by decide) (Nat.le_of_ble_eq_true rfl) ?_
  have K1 : ∀ i : Nat, i < 880 → 0 ≤ ra M0 o0 8 i := y8
  refine mv_iload_n d_TrustDeskModel_counts_0 rfl rfl ?_
  refine mv_aload_n d_TrustDeskModel_counts_1 rfl rfl ?_
  obtain ⟨v3, q2⟩ := tm_atI I0 h_o0 (k := 32) rfl
  refine tr_getK q2 d_TrustDeskModel_counts_2 f_TrustDeskModel_415_13 ?_
  have := yR.f (k := 32) q2 rfl
  have := tm_rv q2
  have := mz_hi x1
  have := mz_hi v3
  refine mv_icmp_neZ (tgt := 98) (a := x1.toInt) (b := v3.toInt) d_TrustDeskModel_counts_5 (by decide) rfl rfl (fun b4 => ?_) (fun b4 => ?_)
  · refine mv_aload_n d_TrustDeskModel_counts_98 rfl rfl ?_
    obtain ⟨v6, q5⟩ := tm_atI I0 h_o0 (k := 67) rfl
    refine tr_getK q5 d_TrustDeskModel_counts_99 f_TrustDeskModel_560_13 ?_
    refine mv_iload_n d_TrustDeskModel_counts_102 rfl rfl ?_
    refine mv_ishr d_TrustDeskModel_counts_103 ?_
    refine mv_iconst (v := 1) d_TrustDeskModel_counts_104 (by decide) ?_
    refine mv_iand d_TrustDeskModel_counts_105 ?_
    have := mz_hi ((v6 >>> (x1 &&& 31)) &&& 1)
    refine mv_if_neZ (tgt := 118) (a := ((v6 >>> (x1 &&& 31)) &&& 1).toInt) d_TrustDeskModel_counts_106 (by decide) rfl (fun b7 => ?_) (fun b7 => ?_)
    · refine mv_iconst (v := 0) d_TrustDeskModel_counts_118 (by decide) ?_
      refine mv_istore_n (lv' := [(3, .int 0), (0, .ref o0), (1, .int x1), (2, .int x2)]) d_TrustDeskModel_counts_119 rfl (by decide) rfl ?_
      have L120_8 : ∀ (k : Nat) (i3_8 : Int32) (T_8 : tm_H) (M_8 : mj_M) (n_8 : Nat), tm_I tm_FT (tm_in w_TrustDeskModel_counts_q9_x) x9 T0 M0 n0 T_8 M_8 n_8 → T_8 o0 = some (0, 13, 0) → 0 ≤ i3_8.toInt → rv M_8 o0 32 = rv M0 o0 32 → (rI M_8 o0) → (∀ i : Nat, i < 880 → 0 ≤ ra M_8 o0 8 i) → 2147483647 - i3_8.toInt < (k : Int) → mj_V g l kY_TrustDeskModel_counts (d + 12) 120 [(3, .int i3_8), (0, .ref o0), (1, .int x1), (2, .int x2)] [] M_8 n_8 0 0 (tm_Q tm_FT (tm_in w_TrustDeskModel_counts_q9_x) x9 T0 M0 n0 (fun r _ M => r = none ∧ rI M o0)) := by
        intro k8
        induction k8 with
        | zero =>
          intro i3_8 T_8 M_8 n_8 I_8 h_q0_8 iv0_8 iv1_8 kKR_8 kK8_8 hk8
          have := mz_hi i3_8
          have := kKR_8.1 15 _ _ rfl
          have := kKR_8.1 16 _ _ rfl
          have := kKR_8.1 19 _ _ rfl
          omega
        | succ k8 ih8 =>
          intro i3_8 T_8 M_8 n_8 I_8 h_q0_8 iv0_8 iv1_8 kKR_8 kK8_8 hk8
          refine mv_iload_n d_TrustDeskModel_counts_120 rfl rfl ?_
          refine mv_iload_n d_TrustDeskModel_counts_121 rfl rfl ?_
          have := mz_hi i3_8
          have := mz_hi x2
          refine mv_icmp_gtZ (tgt := 163) (a := i3_8.toInt) (b := x2.toInt) d_TrustDeskModel_counts_122 (by decide) rfl rfl (fun b9 => ?_) (fun b9 => ?_)
          · exact mv_vret d_TrustDeskModel_counts_163 rfl ⟨_, I_8, rfl, kKR_8⟩
          · refine mv_iload_n d_TrustDeskModel_counts_125 rfl rfl ?_
            refine mv_bipush (v := 8) d_TrustDeskModel_counts_126 (by decide) ?_
            have := mz_hi i3_8
            refine mv_icmp_geZ (tgt := 163) (a := i3_8.toInt) (b := 8) d_TrustDeskModel_counts_128 (by decide) rfl (by decide) (fun b10 => ?_) (fun b10 => ?_)
            · exact mv_vret d_TrustDeskModel_counts_163 rfl ⟨_, I_8, rfl, kKR_8⟩
            · refine mv_aload_n d_TrustDeskModel_counts_131 rfl rfl ?_
              obtain ⟨a12, q11, t_a12⟩ := tm_atR I_8 h_q0_8 (k := 64) rfl
              refine tr_getK q11 d_TrustDeskModel_counts_132 f_TrustDeskModel_152_13 ?_
              refine mv_iload_n d_TrustDeskModel_counts_135 rfl rfl ?_
              refine mv_iload_n d_TrustDeskModel_counts_136 rfl rfl ?_
              refine tr_iastR (k := 64) I_8 kKR_8 (I_8.up h_o0) q11 t_a12 (by decide) (by decide) (fun lo hi h => by cases h) (Or.inl (by decide)) d_TrustDeskModel_counts_137 (vp_in_iff.mpr (by have := kKR_8.1 32 _ _ rfl; omega)) (fun M13 I14 K15 R16 E17 A18 V19 => ?_)
              have z20 := (V19 32)
              have K21 : ∀ i : Nat, i < 880 → 0 ≤ ra M13 o0 8 i := (by have e9 := ((sA_a A18 (by decide +kernel)) : sA [8] _ _ _) 8 rfl; rw [e9]; exact kK8_8)
              refine mv_aload_n d_TrustDeskModel_counts_138 rfl rfl ?_
              refine mv_iload_n d_TrustDeskModel_counts_139 rfl rfl ?_
              refine mv_iconst (v := 1) d_TrustDeskModel_counts_140 (by decide) ?_
              refine mv_iadd d_TrustDeskModel_counts_141 ?_
              refine mv_iload_n d_TrustDeskModel_counts_142 rfl rfl ?_
              refine mv_iload_n d_TrustDeskModel_counts_143 rfl rfl ?_
              have := mz_hi i3_8
              have := mz_hi x2
              refine mv_icmp_neZ (tgt := 153) (a := i3_8.toInt) (b := x2.toInt) d_TrustDeskModel_counts_144 (by decide) rfl rfl (fun b22 => ?_) (fun b22 => ?_)
              · refine mv_iload_n d_TrustDeskModel_counts_153 rfl rfl ?_
                obtain ⟨_, b29, -⟩ := I14.1 _ _ h_q0_8
                have b30 : (x1 + 1 : Int32).toInt = (x1.toInt + 1) := mz_add2 rfl (by decide) (by have := R16.1 32 _ _ rfl; omega) (by have := R16.1 32 _ _ rfl; omega)
                refine mv_callV (kc' := 0) (ks' := 0) (As := [.int (x1 + 1), .int x2]) (st9 := [.int x2, .int (x1 + 1), .ref o0]) d_TrustDeskModel_counts_154 lV_TrustDeskModel_578 b29 rfl (tc_TrustDeskModel_counts_q8_x (d := d) (x9 := x9) (o0 := o0) (x1 := (x1 + 1)) (x2 := x2) h_q0_8 R16 K21 (by have := R16.1 32 _ _ rfl; omega) I14.start) rfl (Nat.le_of_ble_eq_true rfl) (Nat.le_of_ble_eq_true rfl) (Nat.le_of_ble_eq_true rfl) (hst := rfl) (fun b23r M24 n25 b23 => ?_)
                obtain ⟨T26, J27, rfl, R31⟩ := b23
                have I28 := I14.call J27 (tm_sub (by decide)) (Or.inl rfl)
                have t32 := J27.up h_q0_8
                have z33 := (rv_c I14 J27 (I14.up h_o0) (k := 32) rfl).trans z20
                have K34 : ∀ i : Nat, i < 880 → 0 ≤ ra M24 o0 8 i := (by have e9 := ((sA_c I14 J27 (I14.up h_o0) (by decide +kernel)) : sA [8] _ _ _) 8 rfl; rw [e9]; exact K21)
                clear z20
                have q35 := J27.keep h_q0_8 (by decide) (K15 _ 13 64 _ q11)
                have t36 := J27.up t_a12
                refine mv_iinc (v := (i3_8 + 1)) (lv' := [(3, .int (i3_8 + 1)), (0, .ref o0), (1, .int x1), (2, .int x2)]) d_TrustDeskModel_counts_157 rfl rfl (by decide) rfl ?_
                refine mv_goto (tgt := 120) d_TrustDeskModel_counts_160 (by decide) ?_
                have b37 : (i3_8 + 1 : Int32).toInt = (i3_8.toInt + 1) := mz_add2 rfl (by decide) (by have := R31.1 32 _ _ rfl; omega) (by have := R31.1 32 _ _ rfl; omega)
                have b38 : (i3_8 + 1).toInt = i3_8.toInt + 1 := mz_addn 1 1 (by decide) (by have := mz_lo i3_8; omega) (by have := mz_hi i3_8; omega)
                exact (ih8 (i3_8 + 1) T26 M24 n25 I28 t32 (by have := R31.1 32 _ _ rfl; first | omega | decide | exact fun h9 => absurd (by decide) h9) (by have := R31.1 32 _ _ rfl; first | omega | decide | exact fun h9 => absurd (by decide) h9) R31 K34 (by have := R31.1 32 _ _ rfl; omega))
              · refine mv_iload_n d_TrustDeskModel_counts_147 rfl rfl ?_
                refine mv_iconst (v := 1) d_TrustDeskModel_counts_148 (by decide) ?_
                refine mv_iadd d_TrustDeskModel_counts_149 ?_
                refine mv_goto (tgt := 154) d_TrustDeskModel_counts_150 (by decide) ?_
                obtain ⟨_, b45, -⟩ := I14.1 _ _ h_q0_8
                have b46 : (x1 + 1 : Int32).toInt = (x1.toInt + 1) := mz_add2 rfl (by decide) (by have := R16.1 32 _ _ rfl; omega) (by have := R16.1 32 _ _ rfl; omega)
                have b47 : (x2 + 1 : Int32).toInt = (x2.toInt + 1) := mz_add2 rfl (by decide) (by have := R16.1 32 _ _ rfl; omega) (by have := R16.1 32 _ _ rfl; omega)
                refine mv_callV (kc' := 0) (ks' := 0) (As := [.int (x1 + 1), .int (x2 + 1)]) (st9 := [.int (x2 + 1), .int (x1 + 1), .ref o0]) d_TrustDeskModel_counts_154 lV_TrustDeskModel_578 b45 rfl (tc_TrustDeskModel_counts_q8_x (d := d) (x9 := x9) (o0 := o0) (x1 := (x1 + 1)) (x2 := (x2 + 1)) h_q0_8 R16 K21 (by have := R16.1 32 _ _ rfl; omega) I14.start) rfl (Nat.le_of_ble_eq_true rfl) (Nat.le_of_ble_eq_true rfl) (Nat.le_of_ble_eq_true rfl) (hst := rfl) (fun b39r M40 n41 b39 => ?_)
                obtain ⟨T42, J43, rfl, R48⟩ := b39
                have I44 := I14.call J43 (tm_sub (by decide)) (Or.inl rfl)
                have t49 := J43.up h_q0_8
                have z50 := (rv_c I14 J43 (I14.up h_o0) (k := 32) rfl).trans z20
                have K51 : ∀ i : Nat, i < 880 → 0 ≤ ra M40 o0 8 i := (by have e9 := ((sA_c I14 J43 (I14.up h_o0) (by decide +kernel)) : sA [8] _ _ _) 8 rfl; rw [e9]; exact K21)
                clear z20
                have q52 := J43.keep h_q0_8 (by decide) (K15 _ 13 64 _ q11)
                have t53 := J43.up t_a12
                refine mv_iinc (v := (i3_8 + 1)) (lv' := [(3, .int (i3_8 + 1)), (0, .ref o0), (1, .int x1), (2, .int x2)]) d_TrustDeskModel_counts_157 rfl rfl (by decide) rfl ?_
                refine mv_goto (tgt := 120) d_TrustDeskModel_counts_160 (by decide) ?_
                have b54 : (i3_8 + 1 : Int32).toInt = (i3_8.toInt + 1) := mz_add2 rfl (by decide) (by have := R48.1 32 _ _ rfl; omega) (by have := R48.1 32 _ _ rfl; omega)
                have b55 : (i3_8 + 1).toInt = i3_8.toInt + 1 := mz_addn 1 1 (by decide) (by have := mz_lo i3_8; omega) (by have := mz_hi i3_8; omega)
                exact (ih8 (i3_8 + 1) T42 M40 n41 I44 t49 (by have := R48.1 32 _ _ rfl; first | omega | decide | exact fun h9 => absurd (by decide) h9) (by have := R48.1 32 _ _ rfl; first | omega | decide | exact fun h9 => absurd (by decide) h9) R48 K51 (by have := R48.1 32 _ _ rfl; omega))
      have : (0 : Int32).toInt = 0 := by decide
      exact mv_less (Nat.zero_le _) (Nat.zero_le _) (L120_8 4294967296 0 T0 M0 n0 I0 h_o0 (by have := yR.1 32 _ _ rfl; first | omega | decide | exact fun h9 => absurd (by decide) h9) (by have := yR.1 32 _ _ rfl; first | omega | decide | exact fun h9 => absurd (by decide) h9) yR K1 (by show (2147483647 - (0 : Int) : Int) < _; decide))
    · refine mv_aload_n d_TrustDeskModel_counts_109 rfl rfl ?_
      refine mv_iload_n d_TrustDeskModel_counts_110 rfl rfl ?_
      refine mv_iconst (v := 1) d_TrustDeskModel_counts_111 (by decide) ?_
      refine mv_iadd d_TrustDeskModel_counts_112 ?_
      refine mv_iload_n d_TrustDeskModel_counts_113 rfl rfl ?_
      obtain ⟨_, b62, -⟩ := I0.1 _ _ h_o0
      have b63 : (x1 + 1 : Int32).toInt = (x1.toInt + 1) := mz_add2 rfl (by decide) (by have := yR.1 32 _ _ rfl; omega) (by have := yR.1 32 _ _ rfl; omega)
      refine mv_callV (kc' := 0) (ks' := 0) (As := [.int (x1 + 1), .int x2]) (st9 := [.int x2, .int (x1 + 1), .ref o0]) d_TrustDeskModel_counts_114 lV_TrustDeskModel_578 b62 rfl (tc_TrustDeskModel_counts_q8_x (d := d) (x9 := x9) (o0 := o0) (x1 := (x1 + 1)) (x2 := x2) h_o0 yR K1 (by have := yR.1 32 _ _ rfl; omega) I0.start) rfl (Nat.le_of_ble_eq_true rfl) (Nat.le_of_ble_eq_true rfl) (Nat.le_of_ble_eq_true rfl) (hst := rfl) (fun b56r M57 n58 b56 => ?_)
      obtain ⟨T59, J60, rfl, R64⟩ := b56
      have I61 := I0.call J60 (tm_sub (by decide)) (Or.inl rfl)
      have t65 := J60.up h_o0
      have z66 := (rv_c I0 J60 (I0.up h_o0) (k := 32) rfl)
      have K67 : ∀ i : Nat, i < 880 → 0 ≤ ra M57 o0 8 i := (by have e9 := ((sA_c I0 J60 (I0.up h_o0) (by decide +kernel)) : sA [8] _ _ _) 8 rfl; rw [e9]; exact K1)
      have q68 := J60.keep h_o0 (by decide) q2
      have q69 := J60.keep h_o0 (by decide) q5
      exact mv_vret d_TrustDeskModel_counts_117 rfl ⟨_, I61, rfl, R64⟩
  · refine mv_aload_n d_TrustDeskModel_counts_8 rfl rfl ?_
    refine mv_aload_n d_TrustDeskModel_counts_9 rfl rfl ?_
    obtain ⟨a71, q70, t_a71⟩ := tm_atR I0 h_o0 (k := 64) rfl
    refine tr_getK q70 d_TrustDeskModel_counts_10 f_TrustDeskModel_152_13 ?_
    obtain ⟨_, b78, -⟩ := I0.1 _ _ h_o0
    refine mv_callV (kc' := 0) (ks' := 0) (As := [.ref a71]) (st9 := [.ref a71, .ref o0]) d_TrustDeskModel_counts_13 lV_TrustDeskModel_567 b78 rfl (tc_TrustDeskModel_idle_q64_x (d := (d + 9)) (x9 := x9) (o0 := o0) (o1 := a71) h_o0 t_a71 yR K1 I0.start) rfl (Nat.le_of_ble_eq_true rfl) (Nat.le_of_ble_eq_true rfl) (Nat.le_of_ble_eq_true rfl) (hst := rfl) (fun b72r M73 n74 b72 => ?_)
    obtain ⟨T75, J76, v79, rfl, R80⟩ := b72
    have I77 := I0.call J76 (tm_sub (by decide)) (Or.inl rfl)
    have t81 := J76.up h_o0
    have z82 := (rv_c I0 J76 (I0.up h_o0) (k := 32) rfl)
    have K83 : ∀ i : Nat, i < 880 → 0 ≤ ra M73 o0 8 i := (by have e9 := ((sA_c I0 J76 (I0.up h_o0) (by decide +kernel)) : sA [8] _ _ _) 8 rfl; rw [e9]; exact K1)
    have q84 := J76.keep h_o0 (by decide) q2
    have q85 := J76.keep h_o0 (by decide) q70
    have t86 := J76.up t_a71
    refine mv_lstore_n (lv' := [(3, .long v79), (0, .ref o0), (1, .int x1), (2, .int x2)]) d_TrustDeskModel_counts_16 rfl (by decide) rfl ?_
    refine mv_lload_n d_TrustDeskModel_counts_17 rfl rfl ?_
    refine mv_lconst (v := 0) d_TrustDeskModel_counts_18 (by decide) ?_
    refine mv_lltZ (tgt := 56) (a := v79.toInt) (b := 0) d_TrustDeskModel_counts_19 d_TrustDeskModel_counts_20 (by decide) rfl (by decide) (fun b87 => ?_) (fun b87 => ?_)
    · exact mv_vret d_TrustDeskModel_counts_56 rfl ⟨_, I77, rfl, R80⟩
    · refine mv_aload_n d_TrustDeskModel_counts_23 rfl rfl ?_
      obtain ⟨v89, q88⟩ := tm_atI I77 t81 (k := 69) rfl
      refine tr_getK q88 d_TrustDeskModel_counts_24 f_TrustDeskModel_571_13 ?_
      have := mz_hi v89
      refine mv_if_eqZ (tgt := 57) (a := v89.toInt) d_TrustDeskModel_counts_27 (by decide) rfl (fun b90 => ?_) (fun b90 => ?_)
      · refine mv_aload_n d_TrustDeskModel_counts_57 rfl rfl ?_
        refine mv_lload_n d_TrustDeskModel_counts_58 rfl rfl ?_
        refine tr_putR (k := 68) I77 R80 t81 rfl ⟨_, rfl⟩ (fun _ h => by cases h) rfl (fun lo hi h => by cases h) (Or.inl (by decide)) d_TrustDeskModel_counts_59 p_TrustDeskModel_574_13 rfl rfl (fun M91 I92 q93 K94 R95 A96 V97 => ?_)
        have z98 := (V97 32 (by decide)).trans z82
        have K99 : ∀ i : Nat, i < 880 → 0 ≤ ra M91 o0 8 i := (by have e9 := ((sA_f A96 (by decide)) : sA [8] _ _ _) 8 rfl; rw [e9]; exact K83)
        clear z82
        refine mv_aload_n d_TrustDeskModel_counts_62 rfl rfl ?_
        refine mv_iload_n d_TrustDeskModel_counts_63 rfl rfl ?_
        refine tr_putR (k := 69) I92 R95 t81 rfl ⟨_, rfl⟩ (fun _ h => by cases h) rfl (fun lo hi h => by cases h) (Or.inl (by decide)) d_TrustDeskModel_counts_64 p_TrustDeskModel_571_13 rfl rfl (fun M100 I101 q102 K103 R104 A105 V106 => ?_)
        have z107 := (V106 32 (by decide)).trans z98
        have K108 : ∀ i : Nat, i < 880 → 0 ≤ ra M100 o0 8 i := (by have e9 := ((sA_f A105 (by decide)) : sA [8] _ _ _) 8 rfl; rw [e9]; exact K99)
        clear z98
        refine mv_iconst (v := 0) d_TrustDeskModel_counts_67 (by decide) ?_
        refine mv_istore (lv' := [(5, .int 0), (3, .long v79), (0, .ref o0), (1, .int x1), (2, .int x2)]) d_TrustDeskModel_counts_68 (by decide) rfl ?_
        have L70_109 : ∀ (k : Nat) (i5_109 : Int32) (T_109 : tm_H) (M_109 : mj_M) (n_109 : Nat), tm_I tm_FT (tm_in w_TrustDeskModel_counts_q9_x) x9 T0 M0 n0 T_109 M_109 n_109 → T_109 o0 = some (0, 13, 0) → 0 ≤ i5_109.toInt → (rI M_109 o0) → (∀ i : Nat, i < 880 → 0 ≤ ra M_109 o0 8 i) → 2147483647 - i5_109.toInt < (k : Int) → mj_V g l kY_TrustDeskModel_counts (d + 12) 70 [(5, .int i5_109), (3, .long v79), (0, .ref o0), (1, .int x1), (2, .int x2)] [] M_109 n_109 0 0 (tm_Q tm_FT (tm_in w_TrustDeskModel_counts_q9_x) x9 T0 M0 n0 (fun r _ M => r = none ∧ rI M o0)) := by
          intro k109
          induction k109 with
          | zero =>
            intro i5_109 T_109 M_109 n_109 I_109 h_q0_109 iv0_109 kKR_109 kK8_109 hk109
            have := mz_hi i5_109
            have := kKR_109.1 15 _ _ rfl
            have := kKR_109.1 16 _ _ rfl
            have := kKR_109.1 19 _ _ rfl
            omega
          | succ k109 ih109 =>
            intro i5_109 T_109 M_109 n_109 I_109 h_q0_109 iv0_109 kKR_109 kK8_109 hk109
            refine mv_iload d_TrustDeskModel_counts_70 rfl ?_
            refine mv_bipush (v := 12) d_TrustDeskModel_counts_72 (by decide) ?_
            have := mz_hi i5_109
            refine mv_icmp_geZ (tgt := 97) (a := i5_109.toInt) (b := 12) d_TrustDeskModel_counts_74 (by decide) rfl (by decide) (fun b110 => ?_) (fun b110 => ?_)
            · exact mv_vret d_TrustDeskModel_counts_97 rfl ⟨_, I_109, rfl, kKR_109⟩
            · refine mv_aload_n d_TrustDeskModel_counts_77 rfl rfl ?_
              obtain ⟨a112, q111, t_a112⟩ := tm_atR I_109 h_q0_109 (k := 65) rfl
              refine tr_getK q111 d_TrustDeskModel_counts_78 f_TrustDeskModel_155_13 ?_
              refine mv_iload d_TrustDeskModel_counts_81 rfl ?_
              refine mv_aload_n d_TrustDeskModel_counts_83 rfl rfl ?_
              obtain ⟨a114, q113, t_a114⟩ := tm_atR I_109 h_q0_109 (k := 64) rfl
              refine tr_getK q113 d_TrustDeskModel_counts_84 f_TrustDeskModel_152_13 ?_
              refine mv_iload d_TrustDeskModel_counts_87 rfl ?_
              refine tr_ialdR (o := o0) (k := 64) I_109 q113 t_a114 (by decide) d_TrustDeskModel_counts_89 (vp_in_iff.mpr (by have := kKR_109.1 32 _ _ rfl; omega)) (fun v115 e116 => ?_)
              refine tr_iastR (k := 65) I_109 kKR_109 (I_109.up h_o0) q111 t_a112 (by decide) (by decide) (fun lo hi h => by cases h) (Or.inl (by decide)) d_TrustDeskModel_counts_90 (vp_in_iff.mpr (by have := kKR_109.1 32 _ _ rfl; omega)) (fun M117 I118 K119 R120 E121 A122 V123 => ?_)
              have z124 := (V123 32)
              have K125 : ∀ i : Nat, i < 880 → 0 ≤ ra M117 o0 8 i := (by have e9 := ((sA_a A122 (by decide +kernel)) : sA [8] _ _ _) 8 rfl; rw [e9]; exact kK8_109)
              refine mv_iinc (v := (i5_109 + 1)) (lv' := [(5, .int (i5_109 + 1)), (3, .long v79), (0, .ref o0), (1, .int x1), (2, .int x2)]) d_TrustDeskModel_counts_91 rfl rfl (by decide) rfl ?_
              refine mv_goto (tgt := 70) d_TrustDeskModel_counts_94 (by decide) ?_
              have b126 : (i5_109 + 1 : Int32).toInt = (i5_109.toInt + 1) := mz_add2 rfl (by decide) (by have := R120.1 32 _ _ rfl; omega) (by have := R120.1 32 _ _ rfl; omega)
              have b127 : (i5_109 + 1).toInt = i5_109.toInt + 1 := mz_addn 1 1 (by decide) (by have := mz_lo i5_109; omega) (by have := mz_hi i5_109; omega)
              exact (ih109 (i5_109 + 1) T_109 M117 n_109 I118 h_q0_109 (by have := R120.1 32 _ _ rfl; first | omega | decide | exact fun h9 => absurd (by decide) h9) R120 K125 (by have := R120.1 32 _ _ rfl; omega))
        have : (0 : Int32).toInt = 0 := by decide
        exact mv_less (Nat.zero_le _) (Nat.zero_le _) (L70_109 4294967296 0 T75 M100 n74 I101 t81 (by have := R104.1 32 _ _ rfl; first | omega | decide | exact fun h9 => absurd (by decide) h9) R104 K108 (by show (2147483647 - (0 : Int) : Int) < _; decide))
      · refine mv_lload_n d_TrustDeskModel_counts_30 rfl rfl ?_
        refine mv_aload_n d_TrustDeskModel_counts_31 rfl rfl ?_
        obtain ⟨v129, q128⟩ := tm_atL I77 t81 (k := 68) rfl
        refine tr_getK q128 d_TrustDeskModel_counts_32 f_TrustDeskModel_574_13 ?_
        refine mv_lgtZ (tgt := 56) (a := v79.toInt) (b := v129.toInt) d_TrustDeskModel_counts_35 d_TrustDeskModel_counts_36 (by decide) rfl rfl (fun b130 => ?_) (fun b130 => ?_)
        · exact mv_vret d_TrustDeskModel_counts_56 rfl ⟨_, I77, rfl, R80⟩
        · refine mv_lload_n d_TrustDeskModel_counts_39 rfl rfl ?_
          refine mv_aload_n d_TrustDeskModel_counts_40 rfl rfl ?_
          refine tr_getK (k := 68) q128 d_TrustDeskModel_counts_41 f_TrustDeskModel_574_13 ?_
          refine mv_lneZ (tgt := 57) (a := v79.toInt) (b := v129.toInt) d_TrustDeskModel_counts_44 d_TrustDeskModel_counts_45 (by decide) rfl rfl (fun b131 => ?_) (fun b131 => ?_)
          · refine mv_aload_n d_TrustDeskModel_counts_57 rfl rfl ?_
            refine mv_lload_n d_TrustDeskModel_counts_58 rfl rfl ?_
            refine tr_putR (k := 68) I77 R80 t81 rfl ⟨_, rfl⟩ (fun _ h => by cases h) rfl (fun lo hi h => by cases h) (Or.inl (by decide)) d_TrustDeskModel_counts_59 p_TrustDeskModel_574_13 rfl rfl (fun M132 I133 q134 K135 R136 A137 V138 => ?_)
            have z139 := (V138 32 (by decide)).trans z82
            have K140 : ∀ i : Nat, i < 880 → 0 ≤ ra M132 o0 8 i := (by have e9 := ((sA_f A137 (by decide)) : sA [8] _ _ _) 8 rfl; rw [e9]; exact K83)
            clear z82
            refine mv_aload_n d_TrustDeskModel_counts_62 rfl rfl ?_
            refine mv_iload_n d_TrustDeskModel_counts_63 rfl rfl ?_
            refine tr_putR (k := 69) I133 R136 t81 rfl ⟨_, rfl⟩ (fun _ h => by cases h) rfl (fun lo hi h => by cases h) (Or.inl (by decide)) d_TrustDeskModel_counts_64 p_TrustDeskModel_571_13 rfl rfl (fun M141 I142 q143 K144 R145 A146 V147 => ?_)
            have z148 := (V147 32 (by decide)).trans z139
            have K149 : ∀ i : Nat, i < 880 → 0 ≤ ra M141 o0 8 i := (by have e9 := ((sA_f A146 (by decide)) : sA [8] _ _ _) 8 rfl; rw [e9]; exact K140)
            clear z139
            refine mv_iconst (v := 0) d_TrustDeskModel_counts_67 (by decide) ?_
            refine mv_istore (lv' := [(5, .int 0), (3, .long v79), (0, .ref o0), (1, .int x1), (2, .int x2)]) d_TrustDeskModel_counts_68 (by decide) rfl ?_
            have L70_150 : ∀ (k : Nat) (i5_150 : Int32) (T_150 : tm_H) (M_150 : mj_M) (n_150 : Nat), tm_I tm_FT (tm_in w_TrustDeskModel_counts_q9_x) x9 T0 M0 n0 T_150 M_150 n_150 → T_150 o0 = some (0, 13, 0) → 0 ≤ i5_150.toInt → (rI M_150 o0) → (∀ i : Nat, i < 880 → 0 ≤ ra M_150 o0 8 i) → 2147483647 - i5_150.toInt < (k : Int) → mj_V g l kY_TrustDeskModel_counts (d + 12) 70 [(5, .int i5_150), (3, .long v79), (0, .ref o0), (1, .int x1), (2, .int x2)] [] M_150 n_150 0 0 (tm_Q tm_FT (tm_in w_TrustDeskModel_counts_q9_x) x9 T0 M0 n0 (fun r _ M => r = none ∧ rI M o0)) := by
              intro k150
              induction k150 with
              | zero =>
                intro i5_150 T_150 M_150 n_150 I_150 h_q0_150 iv0_150 kKR_150 kK8_150 hk150
                have := mz_hi i5_150
                have := kKR_150.1 15 _ _ rfl
                have := kKR_150.1 16 _ _ rfl
                have := kKR_150.1 19 _ _ rfl
                omega
              | succ k150 ih150 =>
                intro i5_150 T_150 M_150 n_150 I_150 h_q0_150 iv0_150 kKR_150 kK8_150 hk150
                refine mv_iload d_TrustDeskModel_counts_70 rfl ?_
                refine mv_bipush (v := 12) d_TrustDeskModel_counts_72 (by decide) ?_
                have := mz_hi i5_150
                refine mv_icmp_geZ (tgt := 97) (a := i5_150.toInt) (b := 12) d_TrustDeskModel_counts_74 (by decide) rfl (by decide) (fun b151 => ?_) (fun b151 => ?_)
                · exact mv_vret d_TrustDeskModel_counts_97 rfl ⟨_, I_150, rfl, kKR_150⟩
                · refine mv_aload_n d_TrustDeskModel_counts_77 rfl rfl ?_
                  obtain ⟨a153, q152, t_a153⟩ := tm_atR I_150 h_q0_150 (k := 65) rfl
                  refine tr_getK q152 d_TrustDeskModel_counts_78 f_TrustDeskModel_155_13 ?_
                  refine mv_iload d_TrustDeskModel_counts_81 rfl ?_
                  refine mv_aload_n d_TrustDeskModel_counts_83 rfl rfl ?_
                  obtain ⟨a155, q154, t_a155⟩ := tm_atR I_150 h_q0_150 (k := 64) rfl
                  refine tr_getK q154 d_TrustDeskModel_counts_84 f_TrustDeskModel_152_13 ?_
                  refine mv_iload d_TrustDeskModel_counts_87 rfl ?_
                  refine tr_ialdR (o := o0) (k := 64) I_150 q154 t_a155 (by decide) d_TrustDeskModel_counts_89 (vp_in_iff.mpr (by have := kKR_150.1 32 _ _ rfl; omega)) (fun v156 e157 => ?_)
                  refine tr_iastR (k := 65) I_150 kKR_150 (I_150.up h_o0) q152 t_a153 (by decide) (by decide) (fun lo hi h => by cases h) (Or.inl (by decide)) d_TrustDeskModel_counts_90 (vp_in_iff.mpr (by have := kKR_150.1 32 _ _ rfl; omega)) (fun M158 I159 K160 R161 E162 A163 V164 => ?_)
                  have z165 := (V164 32)
                  have K166 : ∀ i : Nat, i < 880 → 0 ≤ ra M158 o0 8 i := (by have e9 := ((sA_a A163 (by decide +kernel)) : sA [8] _ _ _) 8 rfl; rw [e9]; exact kK8_150)
                  refine mv_iinc (v := (i5_150 + 1)) (lv' := [(5, .int (i5_150 + 1)), (3, .long v79), (0, .ref o0), (1, .int x1), (2, .int x2)]) d_TrustDeskModel_counts_91 rfl rfl (by decide) rfl ?_
                  refine mv_goto (tgt := 70) d_TrustDeskModel_counts_94 (by decide) ?_
                  have b167 : (i5_150 + 1 : Int32).toInt = (i5_150.toInt + 1) := mz_add2 rfl (by decide) (by have := R161.1 32 _ _ rfl; omega) (by have := R161.1 32 _ _ rfl; omega)
                  have b168 : (i5_150 + 1).toInt = i5_150.toInt + 1 := mz_addn 1 1 (by decide) (by have := mz_lo i5_150; omega) (by have := mz_hi i5_150; omega)
                  exact (ih150 (i5_150 + 1) T_150 M158 n_150 I159 h_q0_150 (by have := R161.1 32 _ _ rfl; first | omega | decide | exact fun h9 => absurd (by decide) h9) R161 K166 (by have := R161.1 32 _ _ rfl; omega))
            have : (0 : Int32).toInt = 0 := by decide
            exact mv_less (Nat.zero_le _) (Nat.zero_le _) (L70_150 4294967296 0 T75 M141 n74 I142 t81 (by have := R145.1 32 _ _ rfl; first | omega | decide | exact fun h9 => absurd (by decide) h9) R145 K149 (by show (2147483647 - (0 : Int) : Int) < _; decide))
          · refine mv_iload_n d_TrustDeskModel_counts_48 rfl rfl ?_
            refine mv_aload_n d_TrustDeskModel_counts_49 rfl rfl ?_
            refine tr_getK (k := 69) q88 d_TrustDeskModel_counts_50 f_TrustDeskModel_571_13 ?_
            have := mz_hi x2
            have := mz_hi v89
            refine mv_icmp_ltZ (tgt := 57) (a := x2.toInt) (b := v89.toInt) d_TrustDeskModel_counts_53 (by decide) rfl rfl (fun b169 => ?_) (fun b169 => ?_)
            · refine mv_aload_n d_TrustDeskModel_counts_57 rfl rfl ?_
              refine mv_lload_n d_TrustDeskModel_counts_58 rfl rfl ?_
              refine tr_putR (k := 68) I77 R80 t81 rfl ⟨_, rfl⟩ (fun _ h => by cases h) rfl (fun lo hi h => by cases h) (Or.inl (by decide)) d_TrustDeskModel_counts_59 p_TrustDeskModel_574_13 rfl rfl (fun M170 I171 q172 K173 R174 A175 V176 => ?_)
              have z177 := (V176 32 (by decide)).trans z82
              have K178 : ∀ i : Nat, i < 880 → 0 ≤ ra M170 o0 8 i := (by have e9 := ((sA_f A175 (by decide)) : sA [8] _ _ _) 8 rfl; rw [e9]; exact K83)
              clear z82
              refine mv_aload_n d_TrustDeskModel_counts_62 rfl rfl ?_
              refine mv_iload_n d_TrustDeskModel_counts_63 rfl rfl ?_
              refine tr_putR (k := 69) I171 R174 t81 rfl ⟨_, rfl⟩ (fun _ h => by cases h) rfl (fun lo hi h => by cases h) (Or.inl (by decide)) d_TrustDeskModel_counts_64 p_TrustDeskModel_571_13 rfl rfl (fun M179 I180 q181 K182 R183 A184 V185 => ?_)
              have z186 := (V185 32 (by decide)).trans z177
              have K187 : ∀ i : Nat, i < 880 → 0 ≤ ra M179 o0 8 i := (by have e9 := ((sA_f A184 (by decide)) : sA [8] _ _ _) 8 rfl; rw [e9]; exact K178)
              clear z177
              refine mv_iconst (v := 0) d_TrustDeskModel_counts_67 (by decide) ?_
              refine mv_istore (lv' := [(5, .int 0), (3, .long v79), (0, .ref o0), (1, .int x1), (2, .int x2)]) d_TrustDeskModel_counts_68 (by decide) rfl ?_
              have L70_188 : ∀ (k : Nat) (i5_188 : Int32) (T_188 : tm_H) (M_188 : mj_M) (n_188 : Nat), tm_I tm_FT (tm_in w_TrustDeskModel_counts_q9_x) x9 T0 M0 n0 T_188 M_188 n_188 → T_188 o0 = some (0, 13, 0) → 0 ≤ i5_188.toInt → (rI M_188 o0) → (∀ i : Nat, i < 880 → 0 ≤ ra M_188 o0 8 i) → 2147483647 - i5_188.toInt < (k : Int) → mj_V g l kY_TrustDeskModel_counts (d + 12) 70 [(5, .int i5_188), (3, .long v79), (0, .ref o0), (1, .int x1), (2, .int x2)] [] M_188 n_188 0 0 (tm_Q tm_FT (tm_in w_TrustDeskModel_counts_q9_x) x9 T0 M0 n0 (fun r _ M => r = none ∧ rI M o0)) := by
                intro k188
                induction k188 with
                | zero =>
                  intro i5_188 T_188 M_188 n_188 I_188 h_q0_188 iv0_188 kKR_188 kK8_188 hk188
                  have := mz_hi i5_188
                  have := kKR_188.1 15 _ _ rfl
                  have := kKR_188.1 16 _ _ rfl
                  have := kKR_188.1 19 _ _ rfl
                  omega
                | succ k188 ih188 =>
                  intro i5_188 T_188 M_188 n_188 I_188 h_q0_188 iv0_188 kKR_188 kK8_188 hk188
                  refine mv_iload d_TrustDeskModel_counts_70 rfl ?_
                  refine mv_bipush (v := 12) d_TrustDeskModel_counts_72 (by decide) ?_
                  have := mz_hi i5_188
                  refine mv_icmp_geZ (tgt := 97) (a := i5_188.toInt) (b := 12) d_TrustDeskModel_counts_74 (by decide) rfl (by decide) (fun b189 => ?_) (fun b189 => ?_)
                  · exact mv_vret d_TrustDeskModel_counts_97 rfl ⟨_, I_188, rfl, kKR_188⟩
                  · refine mv_aload_n d_TrustDeskModel_counts_77 rfl rfl ?_
                    obtain ⟨a191, q190, t_a191⟩ := tm_atR I_188 h_q0_188 (k := 65) rfl
                    refine tr_getK q190 d_TrustDeskModel_counts_78 f_TrustDeskModel_155_13 ?_
                    refine mv_iload d_TrustDeskModel_counts_81 rfl ?_
                    refine mv_aload_n d_TrustDeskModel_counts_83 rfl rfl ?_
                    obtain ⟨a193, q192, t_a193⟩ := tm_atR I_188 h_q0_188 (k := 64) rfl
                    refine tr_getK q192 d_TrustDeskModel_counts_84 f_TrustDeskModel_152_13 ?_
                    refine mv_iload d_TrustDeskModel_counts_87 rfl ?_
                    refine tr_ialdR (o := o0) (k := 64) I_188 q192 t_a193 (by decide) d_TrustDeskModel_counts_89 (vp_in_iff.mpr (by have := kKR_188.1 32 _ _ rfl; omega)) (fun v194 e195 => ?_)
                    refine tr_iastR (k := 65) I_188 kKR_188 (I_188.up h_o0) q190 t_a191 (by decide) (by decide) (fun lo hi h => by cases h) (Or.inl (by decide)) d_TrustDeskModel_counts_90 (vp_in_iff.mpr (by have := kKR_188.1 32 _ _ rfl; omega)) (fun M196 I197 K198 R199 E200 A201 V202 => ?_)
                    have z203 := (V202 32)
                    have K204 : ∀ i : Nat, i < 880 → 0 ≤ ra M196 o0 8 i := (by have e9 := ((sA_a A201 (by decide +kernel)) : sA [8] _ _ _) 8 rfl; rw [e9]; exact kK8_188)
                    refine mv_iinc (v := (i5_188 + 1)) (lv' := [(5, .int (i5_188 + 1)), (3, .long v79), (0, .ref o0), (1, .int x1), (2, .int x2)]) d_TrustDeskModel_counts_91 rfl rfl (by decide) rfl ?_
                    refine mv_goto (tgt := 70) d_TrustDeskModel_counts_94 (by decide) ?_
                    have b205 : (i5_188 + 1 : Int32).toInt = (i5_188.toInt + 1) := mz_add2 rfl (by decide) (by have := R199.1 32 _ _ rfl; omega) (by have := R199.1 32 _ _ rfl; omega)
                    have b206 : (i5_188 + 1).toInt = i5_188.toInt + 1 := mz_addn 1 1 (by decide) (by have := mz_lo i5_188; omega) (by have := mz_hi i5_188; omega)
                    exact (ih188 (i5_188 + 1) T_188 M196 n_188 I197 h_q0_188 (by have := R199.1 32 _ _ rfl; first | omega | decide | exact fun h9 => absurd (by decide) h9) R199 K204 (by have := R199.1 32 _ _ rfl; omega))
              have : (0 : Int32).toInt = 0 := by decide
              exact mv_less (Nat.zero_le _) (Nat.zero_le _) (L70_188 4294967296 0 T75 M179 n74 I180 t81 (by have := R183.1 32 _ _ rfl; first | omega | decide | exact fun h9 => absurd (by decide) h9) R183 K187 (by show (2147483647 - (0 : Int) : Int) < _; decide))
            · exact mv_vret d_TrustDeskModel_counts_56 rfl ⟨_, I77, rfl, R80⟩
def w_TrustDeskModel_counts_q10_x : List Nat := [1368, 1369, 20064, 20065]
set_option maxHeartbeats 100000000 in theorem tc_TrustDeskModel_counts_q10_x {g : mj_G} {l : Launch} {d : Nat} {T0 : tm_H} {M0 : mj_M} {n0 x9 : Nat} {o0 : Nat} {x1 : Int32} {x2 : Int32} (h_o0 : T0 o0 = some (0, 13, 0)) (yR : rI M0 o0) (y8 : ∀ i : Nat, i < 880 → 0 ≤ ra M0 o0 8 i) (yl : 2 ≤ x1.toInt ∧ x1.toInt ≤ rv M0 o0 32 ∧ 0 ≤ x2.toInt ∧ x2.toInt ≤ x1.toInt) (I0 : tm_I tm_FT (tm_in w_TrustDeskModel_counts_q10_x) x9 T0 M0 n0 T0 M0 n0) : mj_Met g l kY_TrustDeskModel_counts (d + 13) [.ref o0, .int x1, .int x2] M0 n0 0 0 (tm_Q tm_FT (tm_in w_TrustDeskModel_counts_q10_x) x9 T0 M0 n0 (fun r _ M => r = none ∧ rI M o0)) := by
  refine mj_enter (by decide) (Nat.le_of_ble_eq_true rfl) ?_
  have K1 : ∀ i : Nat, i < 880 → 0 ≤ ra M0 o0 8 i := y8
  refine mv_iload_n d_TrustDeskModel_counts_0 rfl rfl ?_
  refine mv_aload_n d_TrustDeskModel_counts_1 rfl rfl ?_
  obtain ⟨v3, q2⟩ := tm_atI I0 h_o0 (k := 32) rfl
  refine tr_getK q2 d_TrustDeskModel_counts_2 f_TrustDeskModel_415_13 ?_
  have := yR.f (k := 32) q2 rfl
  have := tm_rv q2
  have := mz_hi x1
  have := mz_hi v3
  refine mv_icmp_neZ (tgt := 98) (a := x1.toInt) (b := v3.toInt) d_TrustDeskModel_counts_5 (by decide) rfl rfl (fun b4 => ?_) (fun b4 => ?_)
  · refine mv_aload_n d_TrustDeskModel_counts_98 rfl rfl ?_
    obtain ⟨v6, q5⟩ := tm_atI I0 h_o0 (k := 67) rfl
    refine tr_getK q5 d_TrustDeskModel_counts_99 f_TrustDeskModel_560_13 ?_
    refine mv_iload_n d_TrustDeskModel_counts_102 rfl rfl ?_
    refine mv_ishr d_TrustDeskModel_counts_103 ?_
    refine mv_iconst (v := 1) d_TrustDeskModel_counts_104 (by decide) ?_
    refine mv_iand d_TrustDeskModel_counts_105 ?_
    have := mz_hi ((v6 >>> (x1 &&& 31)) &&& 1)
    refine mv_if_neZ (tgt := 118) (a := ((v6 >>> (x1 &&& 31)) &&& 1).toInt) d_TrustDeskModel_counts_106 (by decide) rfl (fun b7 => ?_) (fun b7 => ?_)
    · refine mv_iconst (v := 0) d_TrustDeskModel_counts_118 (by decide) ?_
      refine mv_istore_n (lv' := [(3, .int 0), (0, .ref o0), (1, .int x1), (2, .int x2)]) d_TrustDeskModel_counts_119 rfl (by decide) rfl ?_
      have L120_8 : ∀ (k : Nat) (i3_8 : Int32) (T_8 : tm_H) (M_8 : mj_M) (n_8 : Nat), tm_I tm_FT (tm_in w_TrustDeskModel_counts_q10_x) x9 T0 M0 n0 T_8 M_8 n_8 → T_8 o0 = some (0, 13, 0) → 0 ≤ i3_8.toInt → rv M_8 o0 32 = rv M0 o0 32 → (rI M_8 o0) → (∀ i : Nat, i < 880 → 0 ≤ ra M_8 o0 8 i) → 2147483647 - i3_8.toInt < (k : Int) → mj_V g l kY_TrustDeskModel_counts (d + 13) 120 [(3, .int i3_8), (0, .ref o0), (1, .int x1), (2, .int x2)] [] M_8 n_8 0 0 (tm_Q tm_FT (tm_in w_TrustDeskModel_counts_q10_x) x9 T0 M0 n0 (fun r _ M => r = none ∧ rI M o0)) := by
        intro k8
        induction k8 with
        | zero =>
          intro i3_8 T_8 M_8 n_8 I_8 h_q0_8 iv0_8 iv1_8 kKR_8 kK8_8 hk8
          have := mz_hi i3_8
          have := kKR_8.1 15 _ _ rfl
          have := kKR_8.1 16 _ _ rfl
          have := kKR_8.1 19 _ _ rfl
          omega
        | succ k8 ih8 =>
          intro i3_8 T_8 M_8 n_8 I_8 h_q0_8 iv0_8 iv1_8 kKR_8 kK8_8 hk8
          refine mv_iload_n d_TrustDeskModel_counts_120 rfl rfl ?_
          refine mv_iload_n d_TrustDeskModel_counts_121 rfl rfl ?_
          have := mz_hi i3_8
          have := mz_hi x2
          refine mv_icmp_gtZ (tgt := 163) (a := i3_8.toInt) (b := x2.toInt) d_TrustDeskModel_counts_122 (by decide) rfl rfl (fun b9 => ?_) (fun b9 => ?_)
          · exact mv_vret d_TrustDeskModel_counts_163 rfl ⟨_, I_8, rfl, kKR_8⟩
          · refine mv_iload_n d_TrustDeskModel_counts_125 rfl rfl ?_
            refine mv_bipush (v := 8) d_TrustDeskModel_counts_126 (by decide) ?_
            have := mz_hi i3_8
            refine mv_icmp_geZ (tgt := 163) (a := i3_8.toInt) (b := 8) d_TrustDeskModel_counts_128 (by decide) rfl (by decide) (fun b10 => ?_) (fun b10 => ?_)
            · exact mv_vret d_TrustDeskModel_counts_163 rfl ⟨_, I_8, rfl, kKR_8⟩
            · refine mv_aload_n d_TrustDeskModel_counts_131 rfl rfl ?_
              obtain ⟨a12, q11, t_a12⟩ := tm_atR I_8 h_q0_8 (k := 64) rfl
              refine tr_getK q11 d_TrustDeskModel_counts_132 f_TrustDeskModel_152_13 ?_
              refine mv_iload_n d_TrustDeskModel_counts_135 rfl rfl ?_
              refine mv_iload_n d_TrustDeskModel_counts_136 rfl rfl ?_
              refine tr_iastR (k := 64) I_8 kKR_8 (I_8.up h_o0) q11 t_a12 (by decide) (by decide) (fun lo hi h => by cases h) (Or.inl (by decide)) d_TrustDeskModel_counts_137 (vp_in_iff.mpr (by have := kKR_8.1 32 _ _ rfl; omega)) (fun M13 I14 K15 R16 E17 A18 V19 => ?_)
              have z20 := (V19 32)
              have K21 : ∀ i : Nat, i < 880 → 0 ≤ ra M13 o0 8 i := (by have e9 := ((sA_a A18 (by decide +kernel)) : sA [8] _ _ _) 8 rfl; rw [e9]; exact kK8_8)
              refine mv_aload_n d_TrustDeskModel_counts_138 rfl rfl ?_
              refine mv_iload_n d_TrustDeskModel_counts_139 rfl rfl ?_
              refine mv_iconst (v := 1) d_TrustDeskModel_counts_140 (by decide) ?_
              refine mv_iadd d_TrustDeskModel_counts_141 ?_
              refine mv_iload_n d_TrustDeskModel_counts_142 rfl rfl ?_
              refine mv_iload_n d_TrustDeskModel_counts_143 rfl rfl ?_
              have := mz_hi i3_8
              have := mz_hi x2
              refine mv_icmp_neZ (tgt := 153) (a := i3_8.toInt) (b := x2.toInt) d_TrustDeskModel_counts_144 (by decide) rfl rfl (fun b22 => ?_) (fun b22 => ?_)
              · refine mv_iload_n d_TrustDeskModel_counts_153 rfl rfl ?_
                obtain ⟨_, b29, -⟩ := I14.1 _ _ h_q0_8
                have b30 : (x1 + 1 : Int32).toInt = (x1.toInt + 1) := mz_add2 rfl (by decide) (by have := R16.1 32 _ _ rfl; omega) (by have := R16.1 32 _ _ rfl; omega)
                refine mv_callV (kc' := 0) (ks' := 0) (As := [.int (x1 + 1), .int x2]) (st9 := [.int x2, .int (x1 + 1), .ref o0]) d_TrustDeskModel_counts_154 lV_TrustDeskModel_578 b29 rfl (tc_TrustDeskModel_counts_q9_x (d := d) (x9 := x9) (o0 := o0) (x1 := (x1 + 1)) (x2 := x2) h_q0_8 R16 K21 (by have := R16.1 32 _ _ rfl; omega) I14.start) rfl (Nat.le_of_ble_eq_true rfl) (Nat.le_of_ble_eq_true rfl) (Nat.le_of_ble_eq_true rfl) (hst := rfl) (fun b23r M24 n25 b23 => ?_)
                obtain ⟨T26, J27, rfl, R31⟩ := b23
                have I28 := I14.call J27 (tm_sub (by decide)) (Or.inl rfl)
                have t32 := J27.up h_q0_8
                have z33 := (rv_c I14 J27 (I14.up h_o0) (k := 32) rfl).trans z20
                have K34 : ∀ i : Nat, i < 880 → 0 ≤ ra M24 o0 8 i := (by have e9 := ((sA_c I14 J27 (I14.up h_o0) (by decide +kernel)) : sA [8] _ _ _) 8 rfl; rw [e9]; exact K21)
                clear z20
                have q35 := J27.keep h_q0_8 (by decide) (K15 _ 13 64 _ q11)
                have t36 := J27.up t_a12
                refine mv_iinc (v := (i3_8 + 1)) (lv' := [(3, .int (i3_8 + 1)), (0, .ref o0), (1, .int x1), (2, .int x2)]) d_TrustDeskModel_counts_157 rfl rfl (by decide) rfl ?_
                refine mv_goto (tgt := 120) d_TrustDeskModel_counts_160 (by decide) ?_
                have b37 : (i3_8 + 1 : Int32).toInt = (i3_8.toInt + 1) := mz_add2 rfl (by decide) (by have := R31.1 32 _ _ rfl; omega) (by have := R31.1 32 _ _ rfl; omega)
                have b38 : (i3_8 + 1).toInt = i3_8.toInt + 1 := mz_addn 1 1 (by decide) (by have := mz_lo i3_8; omega) (by have := mz_hi i3_8; omega)
                exact (ih8 (i3_8 + 1) T26 M24 n25 I28 t32 (by have := R31.1 32 _ _ rfl; first | omega | decide | exact fun h9 => absurd (by decide) h9) (by have := R31.1 32 _ _ rfl; first | omega | decide | exact fun h9 => absurd (by decide) h9) R31 K34 (by have := R31.1 32 _ _ rfl; omega))
              · refine mv_iload_n d_TrustDeskModel_counts_147 rfl rfl ?_
                refine mv_iconst (v := 1) d_TrustDeskModel_counts_148 (by decide) ?_
                refine mv_iadd d_TrustDeskModel_counts_149 ?_
                refine mv_goto (tgt := 154) d_TrustDeskModel_counts_150 (by decide) ?_
                obtain ⟨_, b45, -⟩ := I14.1 _ _ h_q0_8
                have b46 : (x1 + 1 : Int32).toInt = (x1.toInt + 1) := mz_add2 rfl (by decide) (by have := R16.1 32 _ _ rfl; omega) (by have := R16.1 32 _ _ rfl; omega)
                have b47 : (x2 + 1 : Int32).toInt = (x2.toInt + 1) := mz_add2 rfl (by decide) (by have := R16.1 32 _ _ rfl; omega) (by have := R16.1 32 _ _ rfl; omega)
                refine mv_callV (kc' := 0) (ks' := 0) (As := [.int (x1 + 1), .int (x2 + 1)]) (st9 := [.int (x2 + 1), .int (x1 + 1), .ref o0]) d_TrustDeskModel_counts_154 lV_TrustDeskModel_578 b45 rfl (tc_TrustDeskModel_counts_q9_x (d := d) (x9 := x9) (o0 := o0) (x1 := (x1 + 1)) (x2 := (x2 + 1)) h_q0_8 R16 K21 (by have := R16.1 32 _ _ rfl; omega) I14.start) rfl (Nat.le_of_ble_eq_true rfl) (Nat.le_of_ble_eq_true rfl) (Nat.le_of_ble_eq_true rfl) (hst := rfl) (fun b39r M40 n41 b39 => ?_)
                obtain ⟨T42, J43, rfl, R48⟩ := b39
                have I44 := I14.call J43 (tm_sub (by decide)) (Or.inl rfl)
                have t49 := J43.up h_q0_8
                have z50 := (rv_c I14 J43 (I14.up h_o0) (k := 32) rfl).trans z20
                have K51 : ∀ i : Nat, i < 880 → 0 ≤ ra M40 o0 8 i := (by have e9 := ((sA_c I14 J43 (I14.up h_o0) (by decide +kernel)) : sA [8] _ _ _) 8 rfl; rw [e9]; exact K21)
                clear z20
                have q52 := J43.keep h_q0_8 (by decide) (K15 _ 13 64 _ q11)
                have t53 := J43.up t_a12
                refine mv_iinc (v := (i3_8 + 1)) (lv' := [(3, .int (i3_8 + 1)), (0, .ref o0), (1, .int x1), (2, .int x2)]) d_TrustDeskModel_counts_157 rfl rfl (by decide) rfl ?_
                refine mv_goto (tgt := 120) d_TrustDeskModel_counts_160 (by decide) ?_
                have b54 : (i3_8 + 1 : Int32).toInt = (i3_8.toInt + 1) := mz_add2 rfl (by decide) (by have := R48.1 32 _ _ rfl; omega) (by have := R48.1 32 _ _ rfl; omega)
                have b55 : (i3_8 + 1).toInt = i3_8.toInt + 1 := mz_addn 1 1 (by decide) (by have := mz_lo i3_8; omega) (by have := mz_hi i3_8; omega)
                exact (ih8 (i3_8 + 1) T42 M40 n41 I44 t49 (by have := R48.1 32 _ _ rfl; first | omega | decide | exact fun h9 => absurd (by decide) h9) (by have := R48.1 32 _ _ rfl; first | omega | decide | exact fun h9 => absurd (by decide) h9) R48 K51 (by have := R48.1 32 _ _ rfl; omega))
      have : (0 : Int32).toInt = 0 := by decide
      exact mv_less (Nat.zero_le _) (Nat.zero_le _) (L120_8 4294967296 0 T0 M0 n0 I0 h_o0 (by have := yR.1 32 _ _ rfl; first | omega | decide | exact fun h9 => absurd (by decide) h9) (by have := yR.1 32 _ _ rfl; first | omega | decide | exact fun h9 => absurd (by decide) h9) yR K1 (by show (2147483647 - (0 : Int) : Int) < _; decide))
    · refine mv_aload_n d_TrustDeskModel_counts_109 rfl rfl ?_
      refine mv_iload_n d_TrustDeskModel_counts_110 rfl rfl ?_
      refine mv_iconst (v := 1) d_TrustDeskModel_counts_111 (by decide) ?_
      refine mv_iadd d_TrustDeskModel_counts_112 ?_
      refine mv_iload_n d_TrustDeskModel_counts_113 rfl rfl ?_
      obtain ⟨_, b62, -⟩ := I0.1 _ _ h_o0
      have b63 : (x1 + 1 : Int32).toInt = (x1.toInt + 1) := mz_add2 rfl (by decide) (by have := yR.1 32 _ _ rfl; omega) (by have := yR.1 32 _ _ rfl; omega)
      refine mv_callV (kc' := 0) (ks' := 0) (As := [.int (x1 + 1), .int x2]) (st9 := [.int x2, .int (x1 + 1), .ref o0]) d_TrustDeskModel_counts_114 lV_TrustDeskModel_578 b62 rfl (tc_TrustDeskModel_counts_q9_x (d := d) (x9 := x9) (o0 := o0) (x1 := (x1 + 1)) (x2 := x2) h_o0 yR K1 (by have := yR.1 32 _ _ rfl; omega) I0.start) rfl (Nat.le_of_ble_eq_true rfl) (Nat.le_of_ble_eq_true rfl) (Nat.le_of_ble_eq_true rfl) (hst := rfl) (fun b56r M57 n58 b56 => ?_)
      obtain ⟨T59, J60, rfl, R64⟩ := b56
      have I61 := I0.call J60 (tm_sub (by decide)) (Or.inl rfl)
      have t65 := J60.up h_o0
      have z66 := (rv_c I0 J60 (I0.up h_o0) (k := 32) rfl)
      have K67 : ∀ i : Nat, i < 880 → 0 ≤ ra M57 o0 8 i := (by have e9 := ((sA_c I0 J60 (I0.up h_o0) (by decide +kernel)) : sA [8] _ _ _) 8 rfl; rw [e9]; exact K1)
      have q68 := J60.keep h_o0 (by decide) q2
      have q69 := J60.keep h_o0 (by decide) q5
      exact mv_vret d_TrustDeskModel_counts_117 rfl ⟨_, I61, rfl, R64⟩
  · refine mv_aload_n d_TrustDeskModel_counts_8 rfl rfl ?_
    refine mv_aload_n d_TrustDeskModel_counts_9 rfl rfl ?_
    obtain ⟨a71, q70, t_a71⟩ := tm_atR I0 h_o0 (k := 64) rfl
    refine tr_getK q70 d_TrustDeskModel_counts_10 f_TrustDeskModel_152_13 ?_
    obtain ⟨_, b78, -⟩ := I0.1 _ _ h_o0
    refine mv_callV (kc' := 0) (ks' := 0) (As := [.ref a71]) (st9 := [.ref a71, .ref o0]) d_TrustDeskModel_counts_13 lV_TrustDeskModel_567 b78 rfl (tc_TrustDeskModel_idle_q64_x (d := (d + 10)) (x9 := x9) (o0 := o0) (o1 := a71) h_o0 t_a71 yR K1 I0.start) rfl (Nat.le_of_ble_eq_true rfl) (Nat.le_of_ble_eq_true rfl) (Nat.le_of_ble_eq_true rfl) (hst := rfl) (fun b72r M73 n74 b72 => ?_)
    obtain ⟨T75, J76, v79, rfl, R80⟩ := b72
    have I77 := I0.call J76 (tm_sub (by decide)) (Or.inl rfl)
    have t81 := J76.up h_o0
    have z82 := (rv_c I0 J76 (I0.up h_o0) (k := 32) rfl)
    have K83 : ∀ i : Nat, i < 880 → 0 ≤ ra M73 o0 8 i := (by have e9 := ((sA_c I0 J76 (I0.up h_o0) (by decide +kernel)) : sA [8] _ _ _) 8 rfl; rw [e9]; exact K1)
    have q84 := J76.keep h_o0 (by decide) q2
    have q85 := J76.keep h_o0 (by decide) q70
    have t86 := J76.up t_a71
    refine mv_lstore_n (lv' := [(3, .long v79), (0, .ref o0), (1, .int x1), (2, .int x2)]) d_TrustDeskModel_counts_16 rfl (by decide) rfl ?_
    refine mv_lload_n d_TrustDeskModel_counts_17 rfl rfl ?_
    refine mv_lconst (v := 0) d_TrustDeskModel_counts_18 (by decide) ?_
    refine mv_lltZ (tgt := 56) (a := v79.toInt) (b := 0) d_TrustDeskModel_counts_19 d_TrustDeskModel_counts_20 (by decide) rfl (by decide) (fun b87 => ?_) (fun b87 => ?_)
    · exact mv_vret d_TrustDeskModel_counts_56 rfl ⟨_, I77, rfl, R80⟩
    · refine mv_aload_n d_TrustDeskModel_counts_23 rfl rfl ?_
      obtain ⟨v89, q88⟩ := tm_atI I77 t81 (k := 69) rfl
      refine tr_getK q88 d_TrustDeskModel_counts_24 f_TrustDeskModel_571_13 ?_
      have := mz_hi v89
      refine mv_if_eqZ (tgt := 57) (a := v89.toInt) d_TrustDeskModel_counts_27 (by decide) rfl (fun b90 => ?_) (fun b90 => ?_)
      · refine mv_aload_n d_TrustDeskModel_counts_57 rfl rfl ?_
        refine mv_lload_n d_TrustDeskModel_counts_58 rfl rfl ?_
        refine tr_putR (k := 68) I77 R80 t81 rfl ⟨_, rfl⟩ (fun _ h => by cases h) rfl (fun lo hi h => by cases h) (Or.inl (by decide)) d_TrustDeskModel_counts_59 p_TrustDeskModel_574_13 rfl rfl (fun M91 I92 q93 K94 R95 A96 V97 => ?_)
        have z98 := (V97 32 (by decide)).trans z82
        have K99 : ∀ i : Nat, i < 880 → 0 ≤ ra M91 o0 8 i := (by have e9 := ((sA_f A96 (by decide)) : sA [8] _ _ _) 8 rfl; rw [e9]; exact K83)
        clear z82
        refine mv_aload_n d_TrustDeskModel_counts_62 rfl rfl ?_
        refine mv_iload_n d_TrustDeskModel_counts_63 rfl rfl ?_
        refine tr_putR (k := 69) I92 R95 t81 rfl ⟨_, rfl⟩ (fun _ h => by cases h) rfl (fun lo hi h => by cases h) (Or.inl (by decide)) d_TrustDeskModel_counts_64 p_TrustDeskModel_571_13 rfl rfl (fun M100 I101 q102 K103 R104 A105 V106 => ?_)
        have z107 := (V106 32 (by decide)).trans z98
        have K108 : ∀ i : Nat, i < 880 → 0 ≤ ra M100 o0 8 i := (by have e9 := ((sA_f A105 (by decide)) : sA [8] _ _ _) 8 rfl; rw [e9]; exact K99)
        clear z98
        refine mv_iconst (v := 0) d_TrustDeskModel_counts_67 (by decide) ?_
        refine mv_istore (lv' := [(5, .int 0), (3, .long v79), (0, .ref o0), (1, .int x1), (2, .int x2)]) d_TrustDeskModel_counts_68 (by decide) rfl ?_
        have L70_109 : ∀ (k : Nat) (i5_109 : Int32) (T_109 : tm_H) (M_109 : mj_M) (n_109 : Nat), tm_I tm_FT (tm_in w_TrustDeskModel_counts_q10_x) x9 T0 M0 n0 T_109 M_109 n_109 → T_109 o0 = some (0, 13, 0) → 0 ≤ i5_109.toInt → (rI M_109 o0) → (∀ i : Nat, i < 880 → 0 ≤ ra M_109 o0 8 i) → 2147483647 - i5_109.toInt < (k : Int) → mj_V g l kY_TrustDeskModel_counts (d + 13) 70 [(5, .int i5_109), (3, .long v79), (0, .ref o0), (1, .int x1), (2, .int x2)] [] M_109 n_109 0 0 (tm_Q tm_FT (tm_in w_TrustDeskModel_counts_q10_x) x9 T0 M0 n0 (fun r _ M => r = none ∧ rI M o0)) := by
          intro k109
          induction k109 with
          | zero =>
            intro i5_109 T_109 M_109 n_109 I_109 h_q0_109 iv0_109 kKR_109 kK8_109 hk109
            have := mz_hi i5_109
            have := kKR_109.1 15 _ _ rfl
            have := kKR_109.1 16 _ _ rfl
            have := kKR_109.1 19 _ _ rfl
            omega
          | succ k109 ih109 =>
            intro i5_109 T_109 M_109 n_109 I_109 h_q0_109 iv0_109 kKR_109 kK8_109 hk109
            refine mv_iload d_TrustDeskModel_counts_70 rfl ?_
            refine mv_bipush (v := 12) d_TrustDeskModel_counts_72 (by decide) ?_
            have := mz_hi i5_109
            refine mv_icmp_geZ (tgt := 97) (a := i5_109.toInt) (b := 12) d_TrustDeskModel_counts_74 (by decide) rfl (by decide) (fun b110 => ?_) (fun b110 => ?_)
            · exact mv_vret d_TrustDeskModel_counts_97 rfl ⟨_, I_109, rfl, kKR_109⟩
            · refine mv_aload_n d_TrustDeskModel_counts_77 rfl rfl ?_
              obtain ⟨a112, q111, t_a112⟩ := tm_atR I_109 h_q0_109 (k := 65) rfl
              refine tr_getK q111 d_TrustDeskModel_counts_78 f_TrustDeskModel_155_13 ?_
              refine mv_iload d_TrustDeskModel_counts_81 rfl ?_
              refine mv_aload_n d_TrustDeskModel_counts_83 rfl rfl ?_
              obtain ⟨a114, q113, t_a114⟩ := tm_atR I_109 h_q0_109 (k := 64) rfl
              refine tr_getK q113 d_TrustDeskModel_counts_84 f_TrustDeskModel_152_13 ?_
              refine mv_iload d_TrustDeskModel_counts_87 rfl ?_
              refine tr_ialdR (o := o0) (k := 64) I_109 q113 t_a114 (by decide) d_TrustDeskModel_counts_89 (vp_in_iff.mpr (by have := kKR_109.1 32 _ _ rfl; omega)) (fun v115 e116 => ?_)
              refine tr_iastR (k := 65) I_109 kKR_109 (I_109.up h_o0) q111 t_a112 (by decide) (by decide) (fun lo hi h => by cases h) (Or.inl (by decide)) d_TrustDeskModel_counts_90 (vp_in_iff.mpr (by have := kKR_109.1 32 _ _ rfl; omega)) (fun M117 I118 K119 R120 E121 A122 V123 => ?_)
              have z124 := (V123 32)
              have K125 : ∀ i : Nat, i < 880 → 0 ≤ ra M117 o0 8 i := (by have e9 := ((sA_a A122 (by decide +kernel)) : sA [8] _ _ _) 8 rfl; rw [e9]; exact kK8_109)
              refine mv_iinc (v := (i5_109 + 1)) (lv' := [(5, .int (i5_109 + 1)), (3, .long v79), (0, .ref o0), (1, .int x1), (2, .int x2)]) d_TrustDeskModel_counts_91 rfl rfl (by decide) rfl ?_
              refine mv_goto (tgt := 70) d_TrustDeskModel_counts_94 (by decide) ?_
              have b126 : (i5_109 + 1 : Int32).toInt = (i5_109.toInt + 1) := mz_add2 rfl (by decide) (by have := R120.1 32 _ _ rfl; omega) (by have := R120.1 32 _ _ rfl; omega)
              have b127 : (i5_109 + 1).toInt = i5_109.toInt + 1 := mz_addn 1 1 (by decide) (by have := mz_lo i5_109; omega) (by have := mz_hi i5_109; omega)
              exact (ih109 (i5_109 + 1) T_109 M117 n_109 I118 h_q0_109 (by have := R120.1 32 _ _ rfl; first | omega | decide | exact fun h9 => absurd (by decide) h9) R120 K125 (by have := R120.1 32 _ _ rfl; omega))
        have : (0 : Int32).toInt = 0 := by decide
        exact mv_less (Nat.zero_le _) (Nat.zero_le _) (L70_109 4294967296 0 T75 M100 n74 I101 t81 (by have := R104.1 32 _ _ rfl; first | omega | decide | exact fun h9 => absurd (by decide) h9) R104 K108 (by show (2147483647 - (0 : Int) : Int) < _; decide))
      · refine mv_lload_n d_TrustDeskModel_counts_30 rfl rfl ?_
        refine mv_aload_n d_TrustDeskModel_counts_31 rfl rfl ?_
        obtain ⟨v129, q128⟩ := tm_atL I77 t81 (k := 68) rfl
        refine tr_getK q128 d_TrustDeskModel_counts_32 f_TrustDeskModel_574_13 ?_
        refine mv_lgtZ (tgt := 56) (a := v79.toInt) (b := v129.toInt) d_TrustDeskModel_counts_35 d_TrustDeskModel_counts_36 (by decide) rfl rfl (fun b130 => ?_) (fun b130 => ?_)
        · exact mv_vret d_TrustDeskModel_counts_56 rfl ⟨_, I77, rfl, R80⟩
        · refine mv_lload_n d_TrustDeskModel_counts_39 rfl rfl ?_
          refine mv_aload_n d_TrustDeskModel_counts_40 rfl rfl ?_
          refine tr_getK (k := 68) q128 d_TrustDeskModel_counts_41 f_TrustDeskModel_574_13 ?_
          refine mv_lneZ (tgt := 57) (a := v79.toInt) (b := v129.toInt) d_TrustDeskModel_counts_44 d_TrustDeskModel_counts_45 (by decide) rfl rfl (fun b131 => ?_) (fun b131 => ?_)
          · refine mv_aload_n d_TrustDeskModel_counts_57 rfl rfl ?_
            refine mv_lload_n d_TrustDeskModel_counts_58 rfl rfl ?_
            refine tr_putR (k := 68) I77 R80 t81 rfl ⟨_, rfl⟩ (fun _ h => by cases h) rfl (fun lo hi h => by cases h) (Or.inl (by decide)) d_TrustDeskModel_counts_59 p_TrustDeskModel_574_13 rfl rfl (fun M132 I133 q134 K135 R136 A137 V138 => ?_)
            have z139 := (V138 32 (by decide)).trans z82
            have K140 : ∀ i : Nat, i < 880 → 0 ≤ ra M132 o0 8 i := (by have e9 := ((sA_f A137 (by decide)) : sA [8] _ _ _) 8 rfl; rw [e9]; exact K83)
            clear z82
            refine mv_aload_n d_TrustDeskModel_counts_62 rfl rfl ?_
            refine mv_iload_n d_TrustDeskModel_counts_63 rfl rfl ?_
            refine tr_putR (k := 69) I133 R136 t81 rfl ⟨_, rfl⟩ (fun _ h => by cases h) rfl (fun lo hi h => by cases h) (Or.inl (by decide)) d_TrustDeskModel_counts_64 p_TrustDeskModel_571_13 rfl rfl (fun M141 I142 q143 K144 R145 A146 V147 => ?_)
            have z148 := (V147 32 (by decide)).trans z139
            have K149 : ∀ i : Nat, i < 880 → 0 ≤ ra M141 o0 8 i := (by have e9 := ((sA_f A146 (by decide)) : sA [8] _ _ _) 8 rfl; rw [e9]; exact K140)
            clear z139
            refine mv_iconst (v := 0) d_TrustDeskModel_counts_67 (by decide) ?_
            refine mv_istore (lv' := [(5, .int 0), (3, .long v79), (0, .ref o0), (1, .int x1), (2, .int x2)]) d_TrustDeskModel_counts_68 (by decide) rfl ?_
            have L70_150 : ∀ (k : Nat) (i5_150 : Int32) (T_150 : tm_H) (M_150 : mj_M) (n_150 : Nat), tm_I tm_FT (tm_in w_TrustDeskModel_counts_q10_x) x9 T0 M0 n0 T_150 M_150 n_150 → T_150 o0 = some (0, 13, 0) → 0 ≤ i5_150.toInt → (rI M_150 o0) → (∀ i : Nat, i < 880 → 0 ≤ ra M_150 o0 8 i) → 2147483647 - i5_150.toInt < (k : Int) → mj_V g l kY_TrustDeskModel_counts (d + 13) 70 [(5, .int i5_150), (3, .long v79), (0, .ref o0), (1, .int x1), (2, .int x2)] [] M_150 n_150 0 0 (tm_Q tm_FT (tm_in w_TrustDeskModel_counts_q10_x) x9 T0 M0 n0 (fun r _ M => r = none ∧ rI M o0)) := by
              intro k150
              induction k150 with
              | zero =>
                intro i5_150 T_150 M_150 n_150 I_150 h_q0_150 iv0_150 kKR_150 kK8_150 hk150
                have := mz_hi i5_150
                have := kKR_150.1 15 _ _ rfl
                have := kKR_150.1 16 _ _ rfl
                have := kKR_150.1 19 _ _ rfl
                omega
              | succ k150 ih150 =>
                intro i5_150 T_150 M_150 n_150 I_150 h_q0_150 iv0_150 kKR_150 kK8_150 hk150
                refine mv_iload d_TrustDeskModel_counts_70 rfl ?_
                refine mv_bipush (v := 12) d_TrustDeskModel_counts_72 (by decide) ?_
                have := mz_hi i5_150
                refine mv_icmp_geZ (tgt := 97) (a := i5_150.toInt) (b := 12) d_TrustDeskModel_counts_74 (by decide) rfl (by decide) (fun b151 => ?_) (fun b151 => ?_)
                · exact mv_vret d_TrustDeskModel_counts_97 rfl ⟨_, I_150, rfl, kKR_150⟩
                · refine mv_aload_n d_TrustDeskModel_counts_77 rfl rfl ?_
                  obtain ⟨a153, q152, t_a153⟩ := tm_atR I_150 h_q0_150 (k := 65) rfl
                  refine tr_getK q152 d_TrustDeskModel_counts_78 f_TrustDeskModel_155_13 ?_
                  refine mv_iload d_TrustDeskModel_counts_81 rfl ?_
                  refine mv_aload_n d_TrustDeskModel_counts_83 rfl rfl ?_
                  obtain ⟨a155, q154, t_a155⟩ := tm_atR I_150 h_q0_150 (k := 64) rfl
                  refine tr_getK q154 d_TrustDeskModel_counts_84 f_TrustDeskModel_152_13 ?_
                  refine mv_iload d_TrustDeskModel_counts_87 rfl ?_
                  refine tr_ialdR (o := o0) (k := 64) I_150 q154 t_a155 (by decide) d_TrustDeskModel_counts_89 (vp_in_iff.mpr (by have := kKR_150.1 32 _ _ rfl; omega)) (fun v156 e157 => ?_)
                  refine tr_iastR (k := 65) I_150 kKR_150 (I_150.up h_o0) q152 t_a153 (by decide) (by decide) (fun lo hi h => by cases h) (Or.inl (by decide)) d_TrustDeskModel_counts_90 (vp_in_iff.mpr (by have := kKR_150.1 32 _ _ rfl; omega)) (fun M158 I159 K160 R161 E162 A163 V164 => ?_)
                  have z165 := (V164 32)
                  have K166 : ∀ i : Nat, i < 880 → 0 ≤ ra M158 o0 8 i := (by have e9 := ((sA_a A163 (by decide +kernel)) : sA [8] _ _ _) 8 rfl; rw [e9]; exact kK8_150)
                  refine mv_iinc (v := (i5_150 + 1)) (lv' := [(5, .int (i5_150 + 1)), (3, .long v79), (0, .ref o0), (1, .int x1), (2, .int x2)]) d_TrustDeskModel_counts_91 rfl rfl (by decide) rfl ?_
                  refine mv_goto (tgt := 70) d_TrustDeskModel_counts_94 (by decide) ?_
                  have b167 : (i5_150 + 1 : Int32).toInt = (i5_150.toInt + 1) := mz_add2 rfl (by decide) (by have := R161.1 32 _ _ rfl; omega) (by have := R161.1 32 _ _ rfl; omega)
                  have b168 : (i5_150 + 1).toInt = i5_150.toInt + 1 := mz_addn 1 1 (by decide) (by have := mz_lo i5_150; omega) (by have := mz_hi i5_150; omega)
                  exact (ih150 (i5_150 + 1) T_150 M158 n_150 I159 h_q0_150 (by have := R161.1 32 _ _ rfl; first | omega | decide | exact fun h9 => absurd (by decide) h9) R161 K166 (by have := R161.1 32 _ _ rfl; omega))
            have : (0 : Int32).toInt = 0 := by decide
            exact mv_less (Nat.zero_le _) (Nat.zero_le _) (L70_150 4294967296 0 T75 M141 n74 I142 t81 (by have := R145.1 32 _ _ rfl; first | omega | decide | exact fun h9 => absurd (by decide) h9) R145 K149 (by show (2147483647 - (0 : Int) : Int) < _; decide))
          · refine mv_iload_n d_TrustDeskModel_counts_48 rfl rfl ?_
            refine mv_aload_n d_TrustDeskModel_counts_49 rfl rfl ?_
            refine tr_getK (k := 69) q88 d_TrustDeskModel_counts_50 f_TrustDeskModel_571_13 ?_
            have := mz_hi x2
            have := mz_hi v89
            refine mv_icmp_ltZ (tgt := 57) (a := x2.toInt) (b := v89.toInt) d_TrustDeskModel_counts_53 (by decide) rfl rfl (fun b169 => ?_) (fun b169 => ?_)
            · refine mv_aload_n d_TrustDeskModel_counts_57 rfl rfl ?_
              refine mv_lload_n d_TrustDeskModel_counts_58 rfl rfl ?_
              refine tr_putR (k := 68) I77 R80 t81 rfl ⟨_, rfl⟩ (fun _ h => by cases h) rfl (fun lo hi h => by cases h) (Or.inl (by decide)) d_TrustDeskModel_counts_59 p_TrustDeskModel_574_13 rfl rfl (fun M170 I171 q172 K173 R174 A175 V176 => ?_)
              have z177 := (V176 32 (by decide)).trans z82
              have K178 : ∀ i : Nat, i < 880 → 0 ≤ ra M170 o0 8 i := (by have e9 := ((sA_f A175 (by decide)) : sA [8] _ _ _) 8 rfl; rw [e9]; exact K83)
              clear z82
              refine mv_aload_n d_TrustDeskModel_counts_62 rfl rfl ?_
              refine mv_iload_n d_TrustDeskModel_counts_63 rfl rfl ?_
              refine tr_putR (k := 69) I171 R174 t81 rfl ⟨_, rfl⟩ (fun _ h => by cases h) rfl (fun lo hi h => by cases h) (Or.inl (by decide)) d_TrustDeskModel_counts_64 p_TrustDeskModel_571_13 rfl rfl (fun M179 I180 q181 K182 R183 A184 V185 => ?_)
              have z186 := (V185 32 (by decide)).trans z177
              have K187 : ∀ i : Nat, i < 880 → 0 ≤ ra M179 o0 8 i := (by have e9 := ((sA_f A184 (by decide)) : sA [8] _ _ _) 8 rfl; rw [e9]; exact K178)
              clear z177
              refine mv_iconst (v := 0) d_TrustDeskModel_counts_67 (by decide) ?_
              refine mv_istore (lv' := [(5, .int 0), (3, .long v79), (0, .ref o0), (1, .int x1), (2, .int x2)]) d_TrustDeskModel_counts_68 (by decide) rfl ?_
              have L70_188 : ∀ (k : Nat) (i5_188 : Int32) (T_188 : tm_H) (M_188 : mj_M) (n_188 : Nat), tm_I tm_FT (tm_in w_TrustDeskModel_counts_q10_x) x9 T0 M0 n0 T_188 M_188 n_188 → T_188 o0 = some (0, 13, 0) → 0 ≤ i5_188.toInt → (rI M_188 o0) → (∀ i : Nat, i < 880 → 0 ≤ ra M_188 o0 8 i) → 2147483647 - i5_188.toInt < (k : Int) → mj_V g l kY_TrustDeskModel_counts (d + 13) 70 [(5, .int i5_188), (3, .long v79), (0, .ref o0), (1, .int x1), (2, .int x2)] [] M_188 n_188 0 0 (tm_Q tm_FT (tm_in w_TrustDeskModel_counts_q10_x) x9 T0 M0 n0 (fun r _ M => r = none ∧ rI M o0)) := by
                intro k188
                induction k188 with
                | zero =>
                  intro i5_188 T_188 M_188 n_188 I_188 h_q0_188 iv0_188 kKR_188 kK8_188 hk188
                  have := mz_hi i5_188
                  have := kKR_188.1 15 _ _ rfl
                  have := kKR_188.1 16 _ _ rfl
                  have := kKR_188.1 19 _ _ rfl
                  omega
                | succ k188 ih188 =>
                  intro i5_188 T_188 M_188 n_188 I_188 h_q0_188 iv0_188 kKR_188 kK8_188 hk188
                  refine mv_iload d_TrustDeskModel_counts_70 rfl ?_
                  refine mv_bipush (v := 12) d_TrustDeskModel_counts_72 (by decide) ?_
                  have := mz_hi i5_188
                  refine mv_icmp_geZ (tgt := 97) (a := i5_188.toInt) (b := 12) d_TrustDeskModel_counts_74 (by decide) rfl (by decide) (fun b189 => ?_) (fun b189 => ?_)
                  · exact mv_vret d_TrustDeskModel_counts_97 rfl ⟨_, I_188, rfl, kKR_188⟩
                  · refine mv_aload_n d_TrustDeskModel_counts_77 rfl rfl ?_
                    obtain ⟨a191, q190, t_a191⟩ := tm_atR I_188 h_q0_188 (k := 65) rfl
                    refine tr_getK q190 d_TrustDeskModel_counts_78 f_TrustDeskModel_155_13 ?_
                    refine mv_iload d_TrustDeskModel_counts_81 rfl ?_
                    refine mv_aload_n d_TrustDeskModel_counts_83 rfl rfl ?_
                    obtain ⟨a193, q192, t_a193⟩ := tm_atR I_188 h_q0_188 (k := 64) rfl
                    refine tr_getK q192 d_TrustDeskModel_counts_84 f_TrustDeskModel_152_13 ?_
                    refine mv_iload d_TrustDeskModel_counts_87 rfl ?_
                    refine tr_ialdR (o := o0) (k := 64) I_188 q192 t_a193 (by decide) d_TrustDeskModel_counts_89 (vp_in_iff.mpr (by have := kKR_188.1 32 _ _ rfl; omega)) (fun v194 e195 => ?_)
                    refine tr_iastR (k := 65) I_188 kKR_188 (I_188.up h_o0) q190 t_a191 (by decide) (by decide) (fun lo hi h => by cases h) (Or.inl (by decide)) d_TrustDeskModel_counts_90 (vp_in_iff.mpr (by have := kKR_188.1 32 _ _ rfl; omega)) (fun M196 I197 K198 R199 E200 A201 V202 => ?_)
                    have z203 := (V202 32)
                    have K204 : ∀ i : Nat, i < 880 → 0 ≤ ra M196 o0 8 i := (by have e9 := ((sA_a A201 (by decide +kernel)) : sA [8] _ _ _) 8 rfl; rw [e9]; exact kK8_188)
                    refine mv_iinc (v := (i5_188 + 1)) (lv' := [(5, .int (i5_188 + 1)), (3, .long v79), (0, .ref o0), (1, .int x1), (2, .int x2)]) d_TrustDeskModel_counts_91 rfl rfl (by decide) rfl ?_
                    refine mv_goto (tgt := 70) d_TrustDeskModel_counts_94 (by decide) ?_
                    have b205 : (i5_188 + 1 : Int32).toInt = (i5_188.toInt + 1) := mz_add2 rfl (by decide) (by have := R199.1 32 _ _ rfl; omega) (by have := R199.1 32 _ _ rfl; omega)
                    have b206 : (i5_188 + 1).toInt = i5_188.toInt + 1 := mz_addn 1 1 (by decide) (by have := mz_lo i5_188; omega) (by have := mz_hi i5_188; omega)
                    exact (ih188 (i5_188 + 1) T_188 M196 n_188 I197 h_q0_188 (by have := R199.1 32 _ _ rfl; first | omega | decide | exact fun h9 => absurd (by decide) h9) R199 K204 (by have := R199.1 32 _ _ rfl; omega))
              have : (0 : Int32).toInt = 0 := by decide
              exact mv_less (Nat.zero_le _) (Nat.zero_le _) (L70_188 4294967296 0 T75 M179 n74 I180 t81 (by have := R183.1 32 _ _ rfl; first | omega | decide | exact fun h9 => absurd (by decide) h9) R183 K187 (by show (2147483647 - (0 : Int) : Int) < _; decide))
            · exact mv_vret d_TrustDeskModel_counts_56 rfl ⟨_, I77, rfl, R80⟩
def w_TrustDeskModel_counts_q11_x : List Nat := [1368, 1369, 20064, 20065]
set_option maxHeartbeats 100000000 in theorem tc_TrustDeskModel_counts_q11_x {g : mj_G} {l : Launch} {d : Nat} {T0 : tm_H} {M0 : mj_M} {n0 x9 : Nat} {o0 : Nat} {x1 : Int32} {x2 : Int32} (h_o0 : T0 o0 = some (0, 13, 0)) (yR : rI M0 o0) (y8 : ∀ i : Nat, i < 880 → 0 ≤ ra M0 o0 8 i) (yl : 1 ≤ x1.toInt ∧ x1.toInt ≤ rv M0 o0 32 ∧ 0 ≤ x2.toInt ∧ x2.toInt ≤ x1.toInt) (I0 : tm_I tm_FT (tm_in w_TrustDeskModel_counts_q11_x) x9 T0 M0 n0 T0 M0 n0) : mj_Met g l kY_TrustDeskModel_counts (d + 14) [.ref o0, .int x1, .int x2] M0 n0 0 0 (tm_Q tm_FT (tm_in w_TrustDeskModel_counts_q11_x) x9 T0 M0 n0 (fun r _ M => r = none ∧ rI M o0)) := by
  refine mj_enter (by decide) (Nat.le_of_ble_eq_true rfl) ?_
  have K1 : ∀ i : Nat, i < 880 → 0 ≤ ra M0 o0 8 i := y8
  refine mv_iload_n d_TrustDeskModel_counts_0 rfl rfl ?_
  refine mv_aload_n d_TrustDeskModel_counts_1 rfl rfl ?_
  obtain ⟨v3, q2⟩ := tm_atI I0 h_o0 (k := 32) rfl
  refine tr_getK q2 d_TrustDeskModel_counts_2 f_TrustDeskModel_415_13 ?_
  have := yR.f (k := 32) q2 rfl
  have := tm_rv q2
  have := mz_hi x1
  have := mz_hi v3
  refine mv_icmp_neZ (tgt := 98) (a := x1.toInt) (b := v3.toInt) d_TrustDeskModel_counts_5 (by decide) rfl rfl (fun b4 => ?_) (fun b4 => ?_)
  · refine mv_aload_n d_TrustDeskModel_counts_98 rfl rfl ?_
    obtain ⟨v6, q5⟩ := tm_atI I0 h_o0 (k := 67) rfl
    refine tr_getK q5 d_TrustDeskModel_counts_99 f_TrustDeskModel_560_13 ?_
    refine mv_iload_n d_TrustDeskModel_counts_102 rfl rfl ?_
    refine mv_ishr d_TrustDeskModel_counts_103 ?_
    refine mv_iconst (v := 1) d_TrustDeskModel_counts_104 (by decide) ?_
    refine mv_iand d_TrustDeskModel_counts_105 ?_
    have := mz_hi ((v6 >>> (x1 &&& 31)) &&& 1)
    refine mv_if_neZ (tgt := 118) (a := ((v6 >>> (x1 &&& 31)) &&& 1).toInt) d_TrustDeskModel_counts_106 (by decide) rfl (fun b7 => ?_) (fun b7 => ?_)
    · refine mv_iconst (v := 0) d_TrustDeskModel_counts_118 (by decide) ?_
      refine mv_istore_n (lv' := [(3, .int 0), (0, .ref o0), (1, .int x1), (2, .int x2)]) d_TrustDeskModel_counts_119 rfl (by decide) rfl ?_
      have L120_8 : ∀ (k : Nat) (i3_8 : Int32) (T_8 : tm_H) (M_8 : mj_M) (n_8 : Nat), tm_I tm_FT (tm_in w_TrustDeskModel_counts_q11_x) x9 T0 M0 n0 T_8 M_8 n_8 → T_8 o0 = some (0, 13, 0) → 0 ≤ i3_8.toInt → rv M_8 o0 32 = rv M0 o0 32 → (rI M_8 o0) → (∀ i : Nat, i < 880 → 0 ≤ ra M_8 o0 8 i) → 2147483647 - i3_8.toInt < (k : Int) → mj_V g l kY_TrustDeskModel_counts (d + 14) 120 [(3, .int i3_8), (0, .ref o0), (1, .int x1), (2, .int x2)] [] M_8 n_8 0 0 (tm_Q tm_FT (tm_in w_TrustDeskModel_counts_q11_x) x9 T0 M0 n0 (fun r _ M => r = none ∧ rI M o0)) := by
        intro k8
        induction k8 with
        | zero =>
          intro i3_8 T_8 M_8 n_8 I_8 h_q0_8 iv0_8 iv1_8 kKR_8 kK8_8 hk8
          have := mz_hi i3_8
          have := kKR_8.1 15 _ _ rfl
          have := kKR_8.1 16 _ _ rfl
          have := kKR_8.1 19 _ _ rfl
          omega
        | succ k8 ih8 =>
          intro i3_8 T_8 M_8 n_8 I_8 h_q0_8 iv0_8 iv1_8 kKR_8 kK8_8 hk8
          refine mv_iload_n d_TrustDeskModel_counts_120 rfl rfl ?_
          refine mv_iload_n d_TrustDeskModel_counts_121 rfl rfl ?_
          have := mz_hi i3_8
          have := mz_hi x2
          refine mv_icmp_gtZ (tgt := 163) (a := i3_8.toInt) (b := x2.toInt) d_TrustDeskModel_counts_122 (by decide) rfl rfl (fun b9 => ?_) (fun b9 => ?_)
          · exact mv_vret d_TrustDeskModel_counts_163 rfl ⟨_, I_8, rfl, kKR_8⟩
          · refine mv_iload_n d_TrustDeskModel_counts_125 rfl rfl ?_
            refine mv_bipush (v := 8) d_TrustDeskModel_counts_126 (by decide) ?_
            have := mz_hi i3_8
            refine mv_icmp_geZ (tgt := 163) (a := i3_8.toInt) (b := 8) d_TrustDeskModel_counts_128 (by decide) rfl (by decide) (fun b10 => ?_) (fun b10 => ?_)
            · exact mv_vret d_TrustDeskModel_counts_163 rfl ⟨_, I_8, rfl, kKR_8⟩
            · refine mv_aload_n d_TrustDeskModel_counts_131 rfl rfl ?_
              obtain ⟨a12, q11, t_a12⟩ := tm_atR I_8 h_q0_8 (k := 64) rfl
              refine tr_getK q11 d_TrustDeskModel_counts_132 f_TrustDeskModel_152_13 ?_
              refine mv_iload_n d_TrustDeskModel_counts_135 rfl rfl ?_
              refine mv_iload_n d_TrustDeskModel_counts_136 rfl rfl ?_
              refine tr_iastR (k := 64) I_8 kKR_8 (I_8.up h_o0) q11 t_a12 (by decide) (by decide) (fun lo hi h => by cases h) (Or.inl (by decide)) d_TrustDeskModel_counts_137 (vp_in_iff.mpr (by have := kKR_8.1 32 _ _ rfl; omega)) (fun M13 I14 K15 R16 E17 A18 V19 => ?_)
              have z20 := (V19 32)
              have K21 : ∀ i : Nat, i < 880 → 0 ≤ ra M13 o0 8 i := (by have e9 := ((sA_a A18 (by decide +kernel)) : sA [8] _ _ _) 8 rfl; rw [e9]; exact kK8_8)
              refine mv_aload_n d_TrustDeskModel_counts_138 rfl rfl ?_
              refine mv_iload_n d_TrustDeskModel_counts_139 rfl rfl ?_
              refine mv_iconst (v := 1) d_TrustDeskModel_counts_140 (by decide) ?_
              refine mv_iadd d_TrustDeskModel_counts_141 ?_
              refine mv_iload_n d_TrustDeskModel_counts_142 rfl rfl ?_
              refine mv_iload_n d_TrustDeskModel_counts_143 rfl rfl ?_
              have := mz_hi i3_8
              have := mz_hi x2
              refine mv_icmp_neZ (tgt := 153) (a := i3_8.toInt) (b := x2.toInt) d_TrustDeskModel_counts_144 (by decide) rfl rfl (fun b22 => ?_) (fun b22 => ?_)
              · refine mv_iload_n d_TrustDeskModel_counts_153 rfl rfl ?_
                obtain ⟨_, b29, -⟩ := I14.1 _ _ h_q0_8
                have b30 : (x1 + 1 : Int32).toInt = (x1.toInt + 1) := mz_add2 rfl (by decide) (by have := R16.1 32 _ _ rfl; omega) (by have := R16.1 32 _ _ rfl; omega)
                refine mv_callV (kc' := 0) (ks' := 0) (As := [.int (x1 + 1), .int x2]) (st9 := [.int x2, .int (x1 + 1), .ref o0]) d_TrustDeskModel_counts_154 lV_TrustDeskModel_578 b29 rfl (tc_TrustDeskModel_counts_q10_x (d := d) (x9 := x9) (o0 := o0) (x1 := (x1 + 1)) (x2 := x2) h_q0_8 R16 K21 (by have := R16.1 32 _ _ rfl; omega) I14.start) rfl (Nat.le_of_ble_eq_true rfl) (Nat.le_of_ble_eq_true rfl) (Nat.le_of_ble_eq_true rfl) (hst := rfl) (fun b23r M24 n25 b23 => ?_)
                obtain ⟨T26, J27, rfl, R31⟩ := b23
                have I28 := I14.call J27 (tm_sub (by decide)) (Or.inl rfl)
                have t32 := J27.up h_q0_8
                have z33 := (rv_c I14 J27 (I14.up h_o0) (k := 32) rfl).trans z20
                have K34 : ∀ i : Nat, i < 880 → 0 ≤ ra M24 o0 8 i := (by have e9 := ((sA_c I14 J27 (I14.up h_o0) (by decide +kernel)) : sA [8] _ _ _) 8 rfl; rw [e9]; exact K21)
                clear z20
                have q35 := J27.keep h_q0_8 (by decide) (K15 _ 13 64 _ q11)
                have t36 := J27.up t_a12
                refine mv_iinc (v := (i3_8 + 1)) (lv' := [(3, .int (i3_8 + 1)), (0, .ref o0), (1, .int x1), (2, .int x2)]) d_TrustDeskModel_counts_157 rfl rfl (by decide) rfl ?_
                refine mv_goto (tgt := 120) d_TrustDeskModel_counts_160 (by decide) ?_
                have b37 : (i3_8 + 1 : Int32).toInt = (i3_8.toInt + 1) := mz_add2 rfl (by decide) (by have := R31.1 32 _ _ rfl; omega) (by have := R31.1 32 _ _ rfl; omega)
                have b38 : (i3_8 + 1).toInt = i3_8.toInt + 1 := mz_addn 1 1 (by decide) (by have := mz_lo i3_8; omega) (by have := mz_hi i3_8; omega)
                exact (ih8 (i3_8 + 1) T26 M24 n25 I28 t32 (by have := R31.1 32 _ _ rfl; first | omega | decide | exact fun h9 => absurd (by decide) h9) (by have := R31.1 32 _ _ rfl; first | omega | decide | exact fun h9 => absurd (by decide) h9) R31 K34 (by have := R31.1 32 _ _ rfl; omega))
              · refine mv_iload_n d_TrustDeskModel_counts_147 rfl rfl ?_
                refine mv_iconst (v := 1) d_TrustDeskModel_counts_148 (by decide) ?_
                refine mv_iadd d_TrustDeskModel_counts_149 ?_
                refine mv_goto (tgt := 154) d_TrustDeskModel_counts_150 (by decide) ?_
                obtain ⟨_, b45, -⟩ := I14.1 _ _ h_q0_8
                have b46 : (x1 + 1 : Int32).toInt = (x1.toInt + 1) := mz_add2 rfl (by decide) (by have := R16.1 32 _ _ rfl; omega) (by have := R16.1 32 _ _ rfl; omega)
                have b47 : (x2 + 1 : Int32).toInt = (x2.toInt + 1) := mz_add2 rfl (by decide) (by have := R16.1 32 _ _ rfl; omega) (by have := R16.1 32 _ _ rfl; omega)
                refine mv_callV (kc' := 0) (ks' := 0) (As := [.int (x1 + 1), .int (x2 + 1)]) (st9 := [.int (x2 + 1), .int (x1 + 1), .ref o0]) d_TrustDeskModel_counts_154 lV_TrustDeskModel_578 b45 rfl (tc_TrustDeskModel_counts_q10_x (d := d) (x9 := x9) (o0 := o0) (x1 := (x1 + 1)) (x2 := (x2 + 1)) h_q0_8 R16 K21 (by have := R16.1 32 _ _ rfl; omega) I14.start) rfl (Nat.le_of_ble_eq_true rfl) (Nat.le_of_ble_eq_true rfl) (Nat.le_of_ble_eq_true rfl) (hst := rfl) (fun b39r M40 n41 b39 => ?_)
                obtain ⟨T42, J43, rfl, R48⟩ := b39
                have I44 := I14.call J43 (tm_sub (by decide)) (Or.inl rfl)
                have t49 := J43.up h_q0_8
                have z50 := (rv_c I14 J43 (I14.up h_o0) (k := 32) rfl).trans z20
                have K51 : ∀ i : Nat, i < 880 → 0 ≤ ra M40 o0 8 i := (by have e9 := ((sA_c I14 J43 (I14.up h_o0) (by decide +kernel)) : sA [8] _ _ _) 8 rfl; rw [e9]; exact K21)
                clear z20
                have q52 := J43.keep h_q0_8 (by decide) (K15 _ 13 64 _ q11)
                have t53 := J43.up t_a12
                refine mv_iinc (v := (i3_8 + 1)) (lv' := [(3, .int (i3_8 + 1)), (0, .ref o0), (1, .int x1), (2, .int x2)]) d_TrustDeskModel_counts_157 rfl rfl (by decide) rfl ?_
                refine mv_goto (tgt := 120) d_TrustDeskModel_counts_160 (by decide) ?_
                have b54 : (i3_8 + 1 : Int32).toInt = (i3_8.toInt + 1) := mz_add2 rfl (by decide) (by have := R48.1 32 _ _ rfl; omega) (by have := R48.1 32 _ _ rfl; omega)
                have b55 : (i3_8 + 1).toInt = i3_8.toInt + 1 := mz_addn 1 1 (by decide) (by have := mz_lo i3_8; omega) (by have := mz_hi i3_8; omega)
                exact (ih8 (i3_8 + 1) T42 M40 n41 I44 t49 (by have := R48.1 32 _ _ rfl; first | omega | decide | exact fun h9 => absurd (by decide) h9) (by have := R48.1 32 _ _ rfl; first | omega | decide | exact fun h9 => absurd (by decide) h9) R48 K51 (by have := R48.1 32 _ _ rfl; omega))
      have : (0 : Int32).toInt = 0 := by decide
      exact mv_less (Nat.zero_le _) (Nat.zero_le _) (L120_8 4294967296 0 T0 M0 n0 I0 h_o0 (by have := yR.1 32 _ _ rfl; first | omega | decide | exact fun h9 => absurd (by decide) h9) (by have := yR.1 32 _ _ rfl; first | omega | decide | exact fun h9 => absurd (by decide) h9) yR K1 (by show (2147483647 - (0 : Int) : Int) < _; decide))
    · refine mv_aload_n d_TrustDeskModel_counts_109 rfl rfl ?_
      refine mv_iload_n d_TrustDeskModel_counts_110 rfl rfl ?_
      refine mv_iconst (v := 1) d_TrustDeskModel_counts_111 (by decide) ?_
      refine mv_iadd d_TrustDeskModel_counts_112 ?_
      refine mv_iload_n d_TrustDeskModel_counts_113 rfl rfl ?_
      obtain ⟨_, b62, -⟩ := I0.1 _ _ h_o0
      have b63 : (x1 + 1 : Int32).toInt = (x1.toInt + 1) := mz_add2 rfl (by decide) (by have := yR.1 32 _ _ rfl; omega) (by have := yR.1 32 _ _ rfl; omega)
      refine mv_callV (kc' := 0) (ks' := 0) (As := [.int (x1 + 1), .int x2]) (st9 := [.int x2, .int (x1 + 1), .ref o0]) d_TrustDeskModel_counts_114 lV_TrustDeskModel_578 b62 rfl (tc_TrustDeskModel_counts_q10_x (d := d) (x9 := x9) (o0 := o0) (x1 := (x1 + 1)) (x2 := x2) h_o0 yR K1 (by have := yR.1 32 _ _ rfl; omega) I0.start) rfl (Nat.le_of_ble_eq_true rfl) (Nat.le_of_ble_eq_true rfl) (Nat.le_of_ble_eq_true rfl) (hst := rfl) (fun b56r M57 n58 b56 => ?_)
      obtain ⟨T59, J60, rfl, R64⟩ := b56
      have I61 := I0.call J60 (tm_sub (by decide)) (Or.inl rfl)
      have t65 := J60.up h_o0
      have z66 := (rv_c I0 J60 (I0.up h_o0) (k := 32) rfl)
      have K67 : ∀ i : Nat, i < 880 → 0 ≤ ra M57 o0 8 i := (by have e9 := ((sA_c I0 J60 (I0.up h_o0) (by decide +kernel)) : sA [8] _ _ _) 8 rfl; rw [e9]; exact K1)
      have q68 := J60.keep h_o0 (by decide) q2
      have q69 := J60.keep h_o0 (by decide) q5
      exact mv_vret d_TrustDeskModel_counts_117 rfl ⟨_, I61, rfl, R64⟩
  · refine mv_aload_n d_TrustDeskModel_counts_8 rfl rfl ?_
    refine mv_aload_n d_TrustDeskModel_counts_9 rfl rfl ?_
    obtain ⟨a71, q70, t_a71⟩ := tm_atR I0 h_o0 (k := 64) rfl
    refine tr_getK q70 d_TrustDeskModel_counts_10 f_TrustDeskModel_152_13 ?_
    obtain ⟨_, b78, -⟩ := I0.1 _ _ h_o0
    refine mv_callV (kc' := 0) (ks' := 0) (As := [.ref a71]) (st9 := [.ref a71, .ref o0]) d_TrustDeskModel_counts_13 lV_TrustDeskModel_567 b78 rfl (tc_TrustDeskModel_idle_q64_x (d := (d + 11)) (x9 := x9) (o0 := o0) (o1 := a71) h_o0 t_a71 yR K1 I0.start) rfl (Nat.le_of_ble_eq_true rfl) (Nat.le_of_ble_eq_true rfl) (Nat.le_of_ble_eq_true rfl) (hst := rfl) (fun b72r M73 n74 b72 => ?_)
    obtain ⟨T75, J76, v79, rfl, R80⟩ := b72
    have I77 := I0.call J76 (tm_sub (by decide)) (Or.inl rfl)
    have t81 := J76.up h_o0
    have z82 := (rv_c I0 J76 (I0.up h_o0) (k := 32) rfl)
    have K83 : ∀ i : Nat, i < 880 → 0 ≤ ra M73 o0 8 i := (by have e9 := ((sA_c I0 J76 (I0.up h_o0) (by decide +kernel)) : sA [8] _ _ _) 8 rfl; rw [e9]; exact K1)
    have q84 := J76.keep h_o0 (by decide) q2
    have q85 := J76.keep h_o0 (by decide) q70
    have t86 := J76.up t_a71
    refine mv_lstore_n (lv' := [(3, .long v79), (0, .ref o0), (1, .int x1), (2, .int x2)]) d_TrustDeskModel_counts_16 rfl (by decide) rfl ?_
    refine mv_lload_n d_TrustDeskModel_counts_17 rfl rfl ?_
    refine mv_lconst (v := 0) d_TrustDeskModel_counts_18 (by decide) ?_
    refine mv_lltZ (tgt := 56) (a := v79.toInt) (b := 0) d_TrustDeskModel_counts_19 d_TrustDeskModel_counts_20 (by decide) rfl (by decide) (fun b87 => ?_) (fun b87 => ?_)
    · exact mv_vret d_TrustDeskModel_counts_56 rfl ⟨_, I77, rfl, R80⟩
    · refine mv_aload_n d_TrustDeskModel_counts_23 rfl rfl ?_
      obtain ⟨v89, q88⟩ := tm_atI I77 t81 (k := 69) rfl
      refine tr_getK q88 d_TrustDeskModel_counts_24 f_TrustDeskModel_571_13 ?_
      have := mz_hi v89
      refine mv_if_eqZ (tgt := 57) (a := v89.toInt) d_TrustDeskModel_counts_27 (by decide) rfl (fun b90 => ?_) (fun b90 => ?_)
      · refine mv_aload_n d_TrustDeskModel_counts_57 rfl rfl ?_
        refine mv_lload_n d_TrustDeskModel_counts_58 rfl rfl ?_
        refine tr_putR (k := 68) I77 R80 t81 rfl ⟨_, rfl⟩ (fun _ h => by cases h) rfl (fun lo hi h => by cases h) (Or.inl (by decide)) d_TrustDeskModel_counts_59 p_TrustDeskModel_574_13 rfl rfl (fun M91 I92 q93 K94 R95 A96 V97 => ?_)
        have z98 := (V97 32 (by decide)).trans z82
        have K99 : ∀ i : Nat, i < 880 → 0 ≤ ra M91 o0 8 i := (by have e9 := ((sA_f A96 (by decide)) : sA [8] _ _ _) 8 rfl; rw [e9]; exact K83)
        clear z82
        refine mv_aload_n d_TrustDeskModel_counts_62 rfl rfl ?_
        refine mv_iload_n d_TrustDeskModel_counts_63 rfl rfl ?_
        refine tr_putR (k := 69) I92 R95 t81 rfl ⟨_, rfl⟩ (fun _ h => by cases h) rfl (fun lo hi h => by cases h) (Or.inl (by decide)) d_TrustDeskModel_counts_64 p_TrustDeskModel_571_13 rfl rfl (fun M100 I101 q102 K103 R104 A105 V106 => ?_)
        have z107 := (V106 32 (by decide)).trans z98
        have K108 : ∀ i : Nat, i < 880 → 0 ≤ ra M100 o0 8 i := (by have e9 := ((sA_f A105 (by decide)) : sA [8] _ _ _) 8 rfl; rw [e9]; exact K99)
        clear z98
        refine mv_iconst (v := 0) d_TrustDeskModel_counts_67 (by decide) ?_
        refine mv_istore (lv' := [(5, .int 0), (3, .long v79), (0, .ref o0), (1, .int x1), (2, .int x2)]) d_TrustDeskModel_counts_68 (by decide) rfl ?_
        have L70_109 : ∀ (k : Nat) (i5_109 : Int32) (T_109 : tm_H) (M_109 : mj_M) (n_109 : Nat), tm_I tm_FT (tm_in w_TrustDeskModel_counts_q11_x) x9 T0 M0 n0 T_109 M_109 n_109 → T_109 o0 = some (0, 13, 0) → 0 ≤ i5_109.toInt → (rI M_109 o0) → (∀ i : Nat, i < 880 → 0 ≤ ra M_109 o0 8 i) → 2147483647 - i5_109.toInt < (k : Int) → mj_V g l kY_TrustDeskModel_counts (d + 14) 70 [(5, .int i5_109), (3, .long v79), (0, .ref o0), (1, .int x1), (2, .int x2)] [] M_109 n_109 0 0 (tm_Q tm_FT (tm_in w_TrustDeskModel_counts_q11_x) x9 T0 M0 n0 (fun r _ M => r = none ∧ rI M o0)) := by
          intro k109
          induction k109 with
          | zero =>
            intro i5_109 T_109 M_109 n_109 I_109 h_q0_109 iv0_109 kKR_109 kK8_109 hk109
            have := mz_hi i5_109
            have := kKR_109.1 15 _ _ rfl
            have := kKR_109.1 16 _ _ rfl
            have := kKR_109.1 19 _ _ rfl
            omega
          | succ k109 ih109 =>
            intro i5_109 T_109 M_109 n_109 I_109 h_q0_109 iv0_109 kKR_109 kK8_109 hk109
            refine mv_iload d_TrustDeskModel_counts_70 rfl ?_
            refine mv_bipush (v := 12) d_TrustDeskModel_counts_72 (by decide) ?_
            have := mz_hi i5_109
            refine mv_icmp_geZ (tgt := 97) (a := i5_109.toInt) (b := 12) d_TrustDeskModel_counts_74 (by decide) rfl (by decide) (fun b110 => ?_) (fun b110 => ?_)
            · exact mv_vret d_TrustDeskModel_counts_97 rfl ⟨_, I_109, rfl, kKR_109⟩
            · refine mv_aload_n d_TrustDeskModel_counts_77 rfl rfl ?_
              obtain ⟨a112, q111, t_a112⟩ := tm_atR I_109 h_q0_109 (k := 65) rfl
              refine tr_getK q111 d_TrustDeskModel_counts_78 f_TrustDeskModel_155_13 ?_
              refine mv_iload d_TrustDeskModel_counts_81 rfl ?_
              refine mv_aload_n d_TrustDeskModel_counts_83 rfl rfl ?_
              obtain ⟨a114, q113, t_a114⟩ := tm_atR I_109 h_q0_109 (k := 64) rfl
              refine tr_getK q113 d_TrustDeskModel_counts_84 f_TrustDeskModel_152_13 ?_
              refine mv_iload d_TrustDeskModel_counts_87 rfl ?_
              refine tr_ialdR (o := o0) (k := 64) I_109 q113 t_a114 (by decide) d_TrustDeskModel_counts_89 (vp_in_iff.mpr (by have := kKR_109.1 32 _ _ rfl; omega)) (fun v115 e116 => ?_)
              refine tr_iastR (k := 65) I_109 kKR_109 (I_109.up h_o0) q111 t_a112 (by decide) (by decide) (fun lo hi h => by cases h) (Or.inl (by decide)) d_TrustDeskModel_counts_90 (vp_in_iff.mpr (by have := kKR_109.1 32 _ _ rfl; omega)) (fun M117 I118 K119 R120 E121 A122 V123 => ?_)
              have z124 := (V123 32)
              have K125 : ∀ i : Nat, i < 880 → 0 ≤ ra M117 o0 8 i := (by have e9 := ((sA_a A122 (by decide +kernel)) : sA [8] _ _ _) 8 rfl; rw [e9]; exact kK8_109)
              refine mv_iinc (v := (i5_109 + 1)) (lv' := [(5, .int (i5_109 + 1)), (3, .long v79), (0, .ref o0), (1, .int x1), (2, .int x2)]) d_TrustDeskModel_counts_91 rfl rfl (by decide) rfl ?_
              refine mv_goto (tgt := 70) d_TrustDeskModel_counts_94 (by decide) ?_
              have b126 : (i5_109 + 1 : Int32).toInt = (i5_109.toInt + 1) := mz_add2 rfl (by decide) (by have := R120.1 32 _ _ rfl; omega) (by have := R120.1 32 _ _ rfl; omega)
              have b127 : (i5_109 + 1).toInt = i5_109.toInt + 1 := mz_addn 1 1 (by decide) (by have := mz_lo i5_109; omega) (by have := mz_hi i5_109; omega)
              exact (ih109 (i5_109 + 1) T_109 M117 n_109 I118 h_q0_109 (by have := R120.1 32 _ _ rfl; first | omega | decide | exact fun h9 => absurd (by decide) h9) R120 K125 (by have := R120.1 32 _ _ rfl; omega))
        have : (0 : Int32).toInt = 0 := by decide
        exact mv_less (Nat.zero_le _) (Nat.zero_le _) (L70_109 4294967296 0 T75 M100 n74 I101 t81 (by have := R104.1 32 _ _ rfl; first | omega | decide | exact fun h9 => absurd (by decide) h9) R104 K108 (by show (2147483647 - (0 : Int) : Int) < _; decide))
      · refine mv_lload_n d_TrustDeskModel_counts_30 rfl rfl ?_
        refine mv_aload_n d_TrustDeskModel_counts_31 rfl rfl ?_
        obtain ⟨v129, q128⟩ := tm_atL I77 t81 (k := 68) rfl
        refine tr_getK q128 d_TrustDeskModel_counts_32 f_TrustDeskModel_574_13 ?_
        refine mv_lgtZ (tgt := 56) (a := v79.toInt) (b := v129.toInt) d_TrustDeskModel_counts_35 d_TrustDeskModel_counts_36 (by decide) rfl rfl (fun b130 => ?_) (fun b130 => ?_)
        · exact mv_vret d_TrustDeskModel_counts_56 rfl ⟨_, I77, rfl, R80⟩
        · refine mv_lload_n d_TrustDeskModel_counts_39 rfl rfl ?_
          refine mv_aload_n d_TrustDeskModel_counts_40 rfl rfl ?_
          refine tr_getK (k := 68) q128 d_TrustDeskModel_counts_41 f_TrustDeskModel_574_13 ?_
          refine mv_lneZ (tgt := 57) (a := v79.toInt) (b := v129.toInt) d_TrustDeskModel_counts_44 d_TrustDeskModel_counts_45 (by decide) rfl rfl (fun b131 => ?_) (fun b131 => ?_)
          · refine mv_aload_n d_TrustDeskModel_counts_57 rfl rfl ?_
            refine mv_lload_n d_TrustDeskModel_counts_58 rfl rfl ?_
            refine tr_putR (k := 68) I77 R80 t81 rfl ⟨_, rfl⟩ (fun _ h => by cases h) rfl (fun lo hi h => by cases h) (Or.inl (by decide)) d_TrustDeskModel_counts_59 p_TrustDeskModel_574_13 rfl rfl (fun M132 I133 q134 K135 R136 A137 V138 => ?_)
            have z139 := (V138 32 (by decide)).trans z82
            have K140 : ∀ i : Nat, i < 880 → 0 ≤ ra M132 o0 8 i := (by have e9 := ((sA_f A137 (by decide)) : sA [8] _ _ _) 8 rfl; rw [e9]; exact K83)
            clear z82
            refine mv_aload_n d_TrustDeskModel_counts_62 rfl rfl ?_
            refine mv_iload_n d_TrustDeskModel_counts_63 rfl rfl ?_
            refine tr_putR (k := 69) I133 R136 t81 rfl ⟨_, rfl⟩ (fun _ h => by cases h) rfl (fun lo hi h => by cases h) (Or.inl (by decide)) d_TrustDeskModel_counts_64 p_TrustDeskModel_571_13 rfl rfl (fun M141 I142 q143 K144 R145 A146 V147 => ?_)
            have z148 := (V147 32 (by decide)).trans z139
            have K149 : ∀ i : Nat, i < 880 → 0 ≤ ra M141 o0 8 i := (by have e9 := ((sA_f A146 (by decide)) : sA [8] _ _ _) 8 rfl; rw [e9]; exact K140)
            clear z139
            refine mv_iconst (v := 0) d_TrustDeskModel_counts_67 (by decide) ?_
            refine mv_istore (lv' := [(5, .int 0), (3, .long v79), (0, .ref o0), (1, .int x1), (2, .int x2)]) d_TrustDeskModel_counts_68 (by decide) rfl ?_
            have L70_150 : ∀ (k : Nat) (i5_150 : Int32) (T_150 : tm_H) (M_150 : mj_M) (n_150 : Nat), tm_I tm_FT (tm_in w_TrustDeskModel_counts_q11_x) x9 T0 M0 n0 T_150 M_150 n_150 → T_150 o0 = some (0, 13, 0) → 0 ≤ i5_150.toInt → (rI M_150 o0) → (∀ i : Nat, i < 880 → 0 ≤ ra M_150 o0 8 i) → 2147483647 - i5_150.toInt < (k : Int) → mj_V g l kY_TrustDeskModel_counts (d + 14) 70 [(5, .int i5_150), (3, .long v79), (0, .ref o0), (1, .int x1), (2, .int x2)] [] M_150 n_150 0 0 (tm_Q tm_FT (tm_in w_TrustDeskModel_counts_q11_x) x9 T0 M0 n0 (fun r _ M => r = none ∧ rI M o0)) := by
              intro k150
              induction k150 with
              | zero =>
                intro i5_150 T_150 M_150 n_150 I_150 h_q0_150 iv0_150 kKR_150 kK8_150 hk150
                have := mz_hi i5_150
                have := kKR_150.1 15 _ _ rfl
                have := kKR_150.1 16 _ _ rfl
                have := kKR_150.1 19 _ _ rfl
                omega
              | succ k150 ih150 =>
                intro i5_150 T_150 M_150 n_150 I_150 h_q0_150 iv0_150 kKR_150 kK8_150 hk150
                refine mv_iload d_TrustDeskModel_counts_70 rfl ?_
                refine mv_bipush (v := 12) d_TrustDeskModel_counts_72 (by decide) ?_
                have := mz_hi i5_150
                refine mv_icmp_geZ (tgt := 97) (a := i5_150.toInt) (b := 12) d_TrustDeskModel_counts_74 (by decide) rfl (by decide) (fun b151 => ?_) (fun b151 => ?_)
                · exact mv_vret d_TrustDeskModel_counts_97 rfl ⟨_, I_150, rfl, kKR_150⟩
                · refine mv_aload_n d_TrustDeskModel_counts_77 rfl rfl ?_
                  obtain ⟨a153, q152, t_a153⟩ := tm_atR I_150 h_q0_150 (k := 65) rfl
                  refine tr_getK q152 d_TrustDeskModel_counts_78 f_TrustDeskModel_155_13 ?_
                  refine mv_iload d_TrustDeskModel_counts_81 rfl ?_
                  refine mv_aload_n d_TrustDeskModel_counts_83 rfl rfl ?_
                  obtain ⟨a155, q154, t_a155⟩ := tm_atR I_150 h_q0_150 (k := 64) rfl
                  refine tr_getK q154 d_TrustDeskModel_counts_84 f_TrustDeskModel_152_13 ?_
                  refine mv_iload d_TrustDeskModel_counts_87 rfl ?_
                  refine tr_ialdR (o := o0) (k := 64) I_150 q154 t_a155 (by decide) d_TrustDeskModel_counts_89 (vp_in_iff.mpr (by have := kKR_150.1 32 _ _ rfl; omega)) (fun v156 e157 => ?_)
                  refine tr_iastR (k := 65) I_150 kKR_150 (I_150.up h_o0) q152 t_a153 (by decide) (by decide) (fun lo hi h => by cases h) (Or.inl (by decide)) d_TrustDeskModel_counts_90 (vp_in_iff.mpr (by have := kKR_150.1 32 _ _ rfl; omega)) (fun M158 I159 K160 R161 E162 A163 V164 => ?_)
                  have z165 := (V164 32)
                  have K166 : ∀ i : Nat, i < 880 → 0 ≤ ra M158 o0 8 i := (by have e9 := ((sA_a A163 (by decide +kernel)) : sA [8] _ _ _) 8 rfl; rw [e9]; exact kK8_150)
                  refine mv_iinc (v := (i5_150 + 1)) (lv' := [(5, .int (i5_150 + 1)), (3, .long v79), (0, .ref o0), (1, .int x1), (2, .int x2)]) d_TrustDeskModel_counts_91 rfl rfl (by decide) rfl ?_
                  refine mv_goto (tgt := 70) d_TrustDeskModel_counts_94 (by decide) ?_
                  have b167 : (i5_150 + 1 : Int32).toInt = (i5_150.toInt + 1) := mz_add2 rfl (by decide) (by have := R161.1 32 _ _ rfl; omega) (by have := R161.1 32 _ _ rfl; omega)
                  have b168 : (i5_150 + 1).toInt = i5_150.toInt + 1 := mz_addn 1 1 (by decide) (by have := mz_lo i5_150; omega) (by have := mz_hi i5_150; omega)
                  exact (ih150 (i5_150 + 1) T_150 M158 n_150 I159 h_q0_150 (by have := R161.1 32 _ _ rfl; first | omega | decide | exact fun h9 => absurd (by decide) h9) R161 K166 (by have := R161.1 32 _ _ rfl; omega))
            have : (0 : Int32).toInt = 0 := by decide
            exact mv_less (Nat.zero_le _) (Nat.zero_le _) (L70_150 4294967296 0 T75 M141 n74 I142 t81 (by have := R145.1 32 _ _ rfl; first | omega | decide | exact fun h9 => absurd (by decide) h9) R145 K149 (by show (2147483647 - (0 : Int) : Int) < _; decide))
          · refine mv_iload_n d_TrustDeskModel_counts_48 rfl rfl ?_
            refine mv_aload_n d_TrustDeskModel_counts_49 rfl rfl ?_
            refine tr_getK (k := 69) q88 d_TrustDeskModel_counts_50 f_TrustDeskModel_571_13 ?_
            have := mz_hi x2
            have := mz_hi v89
            refine mv_icmp_ltZ (tgt := 57) (a := x2.toInt) (b := v89.toInt) d_TrustDeskModel_counts_53 (by decide) rfl rfl (fun b169 => ?_) (fun b169 => ?_)
            · refine mv_aload_n d_TrustDeskModel_counts_57 rfl rfl ?_
              refine mv_lload_n d_TrustDeskModel_counts_58 rfl rfl ?_
              refine tr_putR (k := 68) I77 R80 t81 rfl ⟨_, rfl⟩ (fun _ h => by cases h) rfl (fun lo hi h => by cases h) (Or.inl (by decide)) d_TrustDeskModel_counts_59 p_TrustDeskModel_574_13 rfl rfl (fun M170 I171 q172 K173 R174 A175 V176 => ?_)
              have z177 := (V176 32 (by decide)).trans z82
              have K178 : ∀ i : Nat, i < 880 → 0 ≤ ra M170 o0 8 i := (by have e9 := ((sA_f A175 (by decide)) : sA [8] _ _ _) 8 rfl; rw [e9]; exact K83)
              clear z82
              refine mv_aload_n d_TrustDeskModel_counts_62 rfl rfl ?_
              refine mv_iload_n d_TrustDeskModel_counts_63 rfl rfl ?_
              refine tr_putR (k := 69) I171 R174 t81 rfl ⟨_, rfl⟩ (fun _ h => by cases h) rfl (fun lo hi h => by cases h) (Or.inl (by decide)) d_TrustDeskModel_counts_64 p_TrustDeskModel_571_13 rfl rfl (fun M179 I180 q181 K182 R183 A184 V185 => ?_)
              have z186 := (V185 32 (by decide)).trans z177
              have K187 : ∀ i : Nat, i < 880 → 0 ≤ ra M179 o0 8 i := (by have e9 := ((sA_f A184 (by decide)) : sA [8] _ _ _) 8 rfl; rw [e9]; exact K178)
              clear z177
              refine mv_iconst (v := 0) d_TrustDeskModel_counts_67 (by decide) ?_
              refine mv_istore (lv' := [(5, .int 0), (3, .long v79), (0, .ref o0), (1, .int x1), (2, .int x2)]) d_TrustDeskModel_counts_68 (by decide) rfl ?_
              have L70_188 : ∀ (k : Nat) (i5_188 : Int32) (T_188 : tm_H) (M_188 : mj_M) (n_188 : Nat), tm_I tm_FT (tm_in w_TrustDeskModel_counts_q11_x) x9 T0 M0 n0 T_188 M_188 n_188 → T_188 o0 = some (0, 13, 0) → 0 ≤ i5_188.toInt → (rI M_188 o0) → (∀ i : Nat, i < 880 → 0 ≤ ra M_188 o0 8 i) → 2147483647 - i5_188.toInt < (k : Int) → mj_V g l kY_TrustDeskModel_counts (d + 14) 70 [(5, .int i5_188), (3, .long v79), (0, .ref o0), (1, .int x1), (2, .int x2)] [] M_188 n_188 0 0 (tm_Q tm_FT (tm_in w_TrustDeskModel_counts_q11_x) x9 T0 M0 n0 (fun r _ M => r = none ∧ rI M o0)) := by
                intro k188
                induction k188 with
                | zero =>
                  intro i5_188 T_188 M_188 n_188 I_188 h_q0_188 iv0_188 kKR_188 kK8_188 hk188
                  have := mz_hi i5_188
                  have := kKR_188.1 15 _ _ rfl
                  have := kKR_188.1 16 _ _ rfl
                  have := kKR_188.1 19 _ _ rfl
                  omega
                | succ k188 ih188 =>
                  intro i5_188 T_188 M_188 n_188 I_188 h_q0_188 iv0_188 kKR_188 kK8_188 hk188
                  refine mv_iload d_TrustDeskModel_counts_70 rfl ?_
                  refine mv_bipush (v := 12) d_TrustDeskModel_counts_72 (by decide) ?_
                  have := mz_hi i5_188
                  refine mv_icmp_geZ (tgt := 97) (a := i5_188.toInt) (b := 12) d_TrustDeskModel_counts_74 (by decide) rfl (by decide) (fun b189 => ?_) (fun b189 => ?_)
                  · exact mv_vret d_TrustDeskModel_counts_97 rfl ⟨_, I_188, rfl, kKR_188⟩
                  · refine mv_aload_n d_TrustDeskModel_counts_77 rfl rfl ?_
                    obtain ⟨a191, q190, t_a191⟩ := tm_atR I_188 h_q0_188 (k := 65) rfl
                    refine tr_getK q190 d_TrustDeskModel_counts_78 f_TrustDeskModel_155_13 ?_
                    refine mv_iload d_TrustDeskModel_counts_81 rfl ?_
                    refine mv_aload_n d_TrustDeskModel_counts_83 rfl rfl ?_
                    obtain ⟨a193, q192, t_a193⟩ := tm_atR I_188 h_q0_188 (k := 64) rfl
                    refine tr_getK q192 d_TrustDeskModel_counts_84 f_TrustDeskModel_152_13 ?_
                    refine mv_iload d_TrustDeskModel_counts_87 rfl ?_
                    refine tr_ialdR (o := o0) (k := 64) I_188 q192 t_a193 (by decide) d_TrustDeskModel_counts_89 (vp_in_iff.mpr (by have := kKR_188.1 32 _ _ rfl; omega)) (fun v194 e195 => ?_)
                    refine tr_iastR (k := 65) I_188 kKR_188 (I_188.up h_o0) q190 t_a191 (by decide) (by decide) (fun lo hi h => by cases h) (Or.inl (by decide)) d_TrustDeskModel_counts_90 (vp_in_iff.mpr (by have := kKR_188.1 32 _ _ rfl; omega)) (fun M196 I197 K198 R199 E200 A201 V202 => ?_)
                    have z203 := (V202 32)
                    have K204 : ∀ i : Nat, i < 880 → 0 ≤ ra M196 o0 8 i := (by have e9 := ((sA_a A201 (by decide +kernel)) : sA [8] _ _ _) 8 rfl; rw [e9]; exact kK8_188)
                    refine mv_iinc (v := (i5_188 + 1)) (lv' := [(5, .int (i5_188 + 1)), (3, .long v79), (0, .ref o0), (1, .int x1), (2, .int x2)]) d_TrustDeskModel_counts_91 rfl rfl (by decide) rfl ?_
                    refine mv_goto (tgt := 70) d_TrustDeskModel_counts_94 (by decide) ?_
                    have b205 : (i5_188 + 1 : Int32).toInt = (i5_188.toInt + 1) := mz_add2 rfl (by decide) (by have := R199.1 32 _ _ rfl; omega) (by have := R199.1 32 _ _ rfl; omega)
                    have b206 : (i5_188 + 1).toInt = i5_188.toInt + 1 := mz_addn 1 1 (by decide) (by have := mz_lo i5_188; omega) (by have := mz_hi i5_188; omega)
                    exact (ih188 (i5_188 + 1) T_188 M196 n_188 I197 h_q0_188 (by have := R199.1 32 _ _ rfl; first | omega | decide | exact fun h9 => absurd (by decide) h9) R199 K204 (by have := R199.1 32 _ _ rfl; omega))
              have : (0 : Int32).toInt = 0 := by decide
              exact mv_less (Nat.zero_le _) (Nat.zero_le _) (L70_188 4294967296 0 T75 M179 n74 I180 t81 (by have := R183.1 32 _ _ rfl; first | omega | decide | exact fun h9 => absurd (by decide) h9) R183 K187 (by show (2147483647 - (0 : Int) : Int) < _; decide))
            · exact mv_vret d_TrustDeskModel_counts_56 rfl ⟨_, I77, rfl, R80⟩
def w_TrustDeskModel_counts_q12_x : List Nat := [1368, 1369, 20064, 20065]
set_option maxHeartbeats 100000000 in theorem tc_TrustDeskModel_counts_q12_x {g : mj_G} {l : Launch} {d : Nat} {T0 : tm_H} {M0 : mj_M} {n0 x9 : Nat} {o0 : Nat} {x1 : Int32} {x2 : Int32} (h_o0 : T0 o0 = some (0, 13, 0)) (yR : rI M0 o0) (y8 : ∀ i : Nat, i < 880 → 0 ≤ ra M0 o0 8 i) (yl : 0 ≤ x1.toInt ∧ x1.toInt ≤ rv M0 o0 32 ∧ 0 ≤ x2.toInt ∧ x2.toInt ≤ x1.toInt) (I0 : tm_I tm_FT (tm_in w_TrustDeskModel_counts_q12_x) x9 T0 M0 n0 T0 M0 n0) : mj_Met g l kY_TrustDeskModel_counts (d + 15) [.ref o0, .int x1, .int x2] M0 n0 0 0 (tm_Q tm_FT (tm_in w_TrustDeskModel_counts_q12_x) x9 T0 M0 n0 (fun r _ M => r = none ∧ rI M o0)) := by
  refine mj_enter (by decide) (Nat.le_of_ble_eq_true rfl) ?_
  have K1 : ∀ i : Nat, i < 880 → 0 ≤ ra M0 o0 8 i := y8
  refine mv_iload_n d_TrustDeskModel_counts_0 rfl rfl ?_
  refine mv_aload_n d_TrustDeskModel_counts_1 rfl rfl ?_
  obtain ⟨v3, q2⟩ := tm_atI I0 h_o0 (k := 32) rfl
  refine tr_getK q2 d_TrustDeskModel_counts_2 f_TrustDeskModel_415_13 ?_
  have := yR.f (k := 32) q2 rfl
  have := tm_rv q2
  have := mz_hi x1
  have := mz_hi v3
  refine mv_icmp_neZ (tgt := 98) (a := x1.toInt) (b := v3.toInt) d_TrustDeskModel_counts_5 (by decide) rfl rfl (fun b4 => ?_) (fun b4 => ?_)
  · refine mv_aload_n d_TrustDeskModel_counts_98 rfl rfl ?_
    obtain ⟨v6, q5⟩ := tm_atI I0 h_o0 (k := 67) rfl
    refine tr_getK q5 d_TrustDeskModel_counts_99 f_TrustDeskModel_560_13 ?_
    refine mv_iload_n d_TrustDeskModel_counts_102 rfl rfl ?_
    refine mv_ishr d_TrustDeskModel_counts_103 ?_
    refine mv_iconst (v := 1) d_TrustDeskModel_counts_104 (by decide) ?_
    refine mv_iand d_TrustDeskModel_counts_105 ?_
    have := mz_hi ((v6 >>> (x1 &&& 31)) &&& 1)
    refine mv_if_neZ (tgt := 118) (a := ((v6 >>> (x1 &&& 31)) &&& 1).toInt) d_TrustDeskModel_counts_106 (by decide) rfl (fun b7 => ?_) (fun b7 => ?_)
    · refine mv_iconst (v := 0) d_TrustDeskModel_counts_118 (by decide) ?_
      refine mv_istore_n (lv' := [(3, .int 0), (0, .ref o0), (1, .int x1), (2, .int x2)]) d_TrustDeskModel_counts_119 rfl (by decide) rfl ?_
      have L120_8 : ∀ (k : Nat) (i3_8 : Int32) (T_8 : tm_H) (M_8 : mj_M) (n_8 : Nat), tm_I tm_FT (tm_in w_TrustDeskModel_counts_q12_x) x9 T0 M0 n0 T_8 M_8 n_8 → T_8 o0 = some (0, 13, 0) → 0 ≤ i3_8.toInt → rv M_8 o0 32 = rv M0 o0 32 → (rI M_8 o0) → (∀ i : Nat, i < 880 → 0 ≤ ra M_8 o0 8 i) → 2147483647 - i3_8.toInt < (k : Int) → mj_V g l kY_TrustDeskModel_counts (d + 15) 120 [(3, .int i3_8), (0, .ref o0), (1, .int x1), (2, .int x2)] [] M_8 n_8 0 0 (tm_Q tm_FT (tm_in w_TrustDeskModel_counts_q12_x) x9 T0 M0 n0 (fun r _ M => r = none ∧ rI M o0)) := by
        intro k8
        induction k8 with
        | zero =>
          intro i3_8 T_8 M_8 n_8 I_8 h_q0_8 iv0_8 iv1_8 kKR_8 kK8_8 hk8
          have := mz_hi i3_8
          have := kKR_8.1 15 _ _ rfl
          have := kKR_8.1 16 _ _ rfl
          have := kKR_8.1 19 _ _ rfl
          omega
        | succ k8 ih8 =>
          intro i3_8 T_8 M_8 n_8 I_8 h_q0_8 iv0_8 iv1_8 kKR_8 kK8_8 hk8
          refine mv_iload_n d_TrustDeskModel_counts_120 rfl rfl ?_
          refine mv_iload_n d_TrustDeskModel_counts_121 rfl rfl ?_
          have := mz_hi i3_8
          have := mz_hi x2
          refine mv_icmp_gtZ (tgt := 163) (a := i3_8.toInt) (b := x2.toInt) d_TrustDeskModel_counts_122 (by decide) rfl rfl (fun b9 => ?_) (fun b9 => ?_)
          · exact mv_vret d_TrustDeskModel_counts_163 rfl ⟨_, I_8, rfl, kKR_8⟩
          · refine mv_iload_n d_TrustDeskModel_counts_125 rfl rfl ?_
            refine mv_bipush (v := 8) d_TrustDeskModel_counts_126 (by decide) ?_
            have := mz_hi i3_8
            refine mv_icmp_geZ (tgt := 163) (a := i3_8.toInt) (b := 8) d_TrustDeskModel_counts_128 (by decide) rfl (by decide) (fun b10 => ?_) (fun b10 => ?_)
            · exact mv_vret d_TrustDeskModel_counts_163 rfl ⟨_, I_8, rfl, kKR_8⟩
            · refine mv_aload_n d_TrustDeskModel_counts_131 rfl rfl ?_
              obtain ⟨a12, q11, t_a12⟩ := tm_atR I_8 h_q0_8 (k := 64) rfl
              refine tr_getK q11 d_TrustDeskModel_counts_132 f_TrustDeskModel_152_13 ?_
              refine mv_iload_n d_TrustDeskModel_counts_135 rfl rfl ?_
              refine mv_iload_n d_TrustDeskModel_counts_136 rfl rfl ?_
              refine tr_iastR (k := 64) I_8 kKR_8 (I_8.up h_o0) q11 t_a12 (by decide) (by decide) (fun lo hi h => by cases h) (Or.inl (by decide)) d_TrustDeskModel_counts_137 (vp_in_iff.mpr (by have := kKR_8.1 32 _ _ rfl; omega)) (fun M13 I14 K15 R16 E17 A18 V19 => ?_)
              have z20 := (V19 32)
              have K21 : ∀ i : Nat, i < 880 → 0 ≤ ra M13 o0 8 i := (by have e9 := ((sA_a A18 (by decide +kernel)) : sA [8] _ _ _) 8 rfl; rw [e9]; exact kK8_8)
              refine mv_aload_n d_TrustDeskModel_counts_138 rfl rfl ?_
              refine mv_iload_n d_TrustDeskModel_counts_139 rfl rfl ?_
              refine mv_iconst (v := 1) d_TrustDeskModel_counts_140 (by decide) ?_
              refine mv_iadd d_TrustDeskModel_counts_141 ?_
              refine mv_iload_n d_TrustDeskModel_counts_142 rfl rfl ?_
              refine mv_iload_n d_TrustDeskModel_counts_143 rfl rfl ?_
              have := mz_hi i3_8
              have := mz_hi x2
              refine mv_icmp_neZ (tgt := 153) (a := i3_8.toInt) (b := x2.toInt) d_TrustDeskModel_counts_144 (by decide) rfl rfl (fun b22 => ?_) (fun b22 => ?_)
              · refine mv_iload_n d_TrustDeskModel_counts_153 rfl rfl ?_
                obtain ⟨_, b29, -⟩ := I14.1 _ _ h_q0_8
                have b30 : (x1 + 1 : Int32).toInt = (x1.toInt + 1) := mz_add2 rfl (by decide) (by have := R16.1 32 _ _ rfl; omega) (by have := R16.1 32 _ _ rfl; omega)
                refine mv_callV (kc' := 0) (ks' := 0) (As := [.int (x1 + 1), .int x2]) (st9 := [.int x2, .int (x1 + 1), .ref o0]) d_TrustDeskModel_counts_154 lV_TrustDeskModel_578 b29 rfl (tc_TrustDeskModel_counts_q11_x (d := d) (x9 := x9) (o0 := o0) (x1 := (x1 + 1)) (x2 := x2) h_q0_8 R16 K21 (by have := R16.1 32 _ _ rfl; omega) I14.start) rfl (Nat.le_of_ble_eq_true rfl) (Nat.le_of_ble_eq_true rfl) (Nat.le_of_ble_eq_true rfl) (hst := rfl) (fun b23r M24 n25 b23 => ?_)
                obtain ⟨T26, J27, rfl, R31⟩ := b23
                have I28 := I14.call J27 (tm_sub (by decide)) (Or.inl rfl)
                have t32 := J27.up h_q0_8
                have z33 := (rv_c I14 J27 (I14.up h_o0) (k := 32) rfl).trans z20
                have K34 : ∀ i : Nat, i < 880 → 0 ≤ ra M24 o0 8 i := (by have e9 := ((sA_c I14 J27 (I14.up h_o0) (by decide +kernel)) : sA [8] _ _ _) 8 rfl; rw [e9]; exact K21)
                clear z20
                have q35 := J27.keep h_q0_8 (by decide) (K15 _ 13 64 _ q11)
                have t36 := J27.up t_a12
                refine mv_iinc (v := (i3_8 + 1)) (lv' := [(3, .int (i3_8 + 1)), (0, .ref o0), (1, .int x1), (2, .int x2)]) d_TrustDeskModel_counts_157 rfl rfl (by decide) rfl ?_
                refine mv_goto (tgt := 120) d_TrustDeskModel_counts_160 (by decide) ?_
                have b37 : (i3_8 + 1 : Int32).toInt = (i3_8.toInt + 1) := mz_add2 rfl (by decide) (by have := R31.1 32 _ _ rfl; omega) (by have := R31.1 32 _ _ rfl; omega)
                have b38 : (i3_8 + 1).toInt = i3_8.toInt + 1 := mz_addn 1 1 (by decide) (by have := mz_lo i3_8; omega) (by have := mz_hi i3_8; omega)
                exact (ih8 (i3_8 + 1) T26 M24 n25 I28 t32 (by have := R31.1 32 _ _ rfl; first | omega | decide | exact fun h9 => absurd (by decide) h9) (by have := R31.1 32 _ _ rfl; first | omega | decide | exact fun h9 => absurd (by decide) h9) R31 K34 (by have := R31.1 32 _ _ rfl; omega))
              · refine mv_iload_n d_TrustDeskModel_counts_147 rfl rfl ?_
                refine mv_iconst (v := 1) d_TrustDeskModel_counts_148 (by decide) ?_
                refine mv_iadd d_TrustDeskModel_counts_149 ?_
                refine mv_goto (tgt := 154) d_TrustDeskModel_counts_150 (by decide) ?_
                obtain ⟨_, b45, -⟩ := I14.1 _ _ h_q0_8
                have b46 : (x1 + 1 : Int32).toInt = (x1.toInt + 1) := mz_add2 rfl (by decide) (by have := R16.1 32 _ _ rfl; omega) (by have := R16.1 32 _ _ rfl; omega)
                have b47 : (x2 + 1 : Int32).toInt = (x2.toInt + 1) := mz_add2 rfl (by decide) (by have := R16.1 32 _ _ rfl; omega) (by have := R16.1 32 _ _ rfl; omega)
                refine mv_callV (kc' := 0) (ks' := 0) (As := [.int (x1 + 1), .int (x2 + 1)]) (st9 := [.int (x2 + 1), .int (x1 + 1), .ref o0]) d_TrustDeskModel_counts_154 lV_TrustDeskModel_578 b45 rfl (tc_TrustDeskModel_counts_q11_x (d := d) (x9 := x9) (o0 := o0) (x1 := (x1 + 1)) (x2 := (x2 + 1)) h_q0_8 R16 K21 (by have := R16.1 32 _ _ rfl; omega) I14.start) rfl (Nat.le_of_ble_eq_true rfl) (Nat.le_of_ble_eq_true rfl) (Nat.le_of_ble_eq_true rfl) (hst := rfl) (fun b39r M40 n41 b39 => ?_)
                obtain ⟨T42, J43, rfl, R48⟩ := b39
                have I44 := I14.call J43 (tm_sub (by decide)) (Or.inl rfl)
                have t49 := J43.up h_q0_8
                have z50 := (rv_c I14 J43 (I14.up h_o0) (k := 32) rfl).trans z20
                have K51 : ∀ i : Nat, i < 880 → 0 ≤ ra M40 o0 8 i := (by have e9 := ((sA_c I14 J43 (I14.up h_o0) (by decide +kernel)) : sA [8] _ _ _) 8 rfl; rw [e9]; exact K21)
                clear z20
                have q52 := J43.keep h_q0_8 (by decide) (K15 _ 13 64 _ q11)
                have t53 := J43.up t_a12
                refine mv_iinc (v := (i3_8 + 1)) (lv' := [(3, .int (i3_8 + 1)), (0, .ref o0), (1, .int x1), (2, .int x2)]) d_TrustDeskModel_counts_157 rfl rfl (by decide) rfl ?_
                refine mv_goto (tgt := 120) d_TrustDeskModel_counts_160 (by decide) ?_
                have b54 : (i3_8 + 1 : Int32).toInt = (i3_8.toInt + 1) := mz_add2 rfl (by decide) (by have := R48.1 32 _ _ rfl; omega) (by have := R48.1 32 _ _ rfl; omega)
                have b55 : (i3_8 + 1).toInt = i3_8.toInt + 1 := mz_addn 1 1 (by decide) (by have := mz_lo i3_8; omega) (by have := mz_hi i3_8; omega)
                exact (ih8 (i3_8 + 1) T42 M40 n41 I44 t49 (by have := R48.1 32 _ _ rfl; first | omega | decide | exact fun h9 => absurd (by decide) h9) (by have := R48.1 32 _ _ rfl; first | omega | decide | exact fun h9 => absurd (by decide) h9) R48 K51 (by have := R48.1 32 _ _ rfl; omega))
      have : (0 : Int32).toInt = 0 := by decide
      exact mv_less (Nat.zero_le _) (Nat.zero_le _) (L120_8 4294967296 0 T0 M0 n0 I0 h_o0 (by have := yR.1 32 _ _ rfl; first | omega | decide | exact fun h9 => absurd (by decide) h9) (by have := yR.1 32 _ _ rfl; first | omega | decide | exact fun h9 => absurd (by decide) h9) yR K1 (by show (2147483647 - (0 : Int) : Int) < _; decide))
    · refine mv_aload_n d_TrustDeskModel_counts_109 rfl rfl ?_
      refine mv_iload_n d_TrustDeskModel_counts_110 rfl rfl ?_
      refine mv_iconst (v := 1) d_TrustDeskModel_counts_111 (by decide) ?_
      refine mv_iadd d_TrustDeskModel_counts_112 ?_
      refine mv_iload_n d_TrustDeskModel_counts_113 rfl rfl ?_
      obtain ⟨_, b62, -⟩ := I0.1 _ _ h_o0
      have b63 : (x1 + 1 : Int32).toInt = (x1.toInt + 1) := mz_add2 rfl (by decide) (by have := yR.1 32 _ _ rfl; omega) (by have := yR.1 32 _ _ rfl; omega)
      refine mv_callV (kc' := 0) (ks' := 0) (As := [.int (x1 + 1), .int x2]) (st9 := [.int x2, .int (x1 + 1), .ref o0]) d_TrustDeskModel_counts_114 lV_TrustDeskModel_578 b62 rfl (tc_TrustDeskModel_counts_q11_x (d := d) (x9 := x9) (o0 := o0) (x1 := (x1 + 1)) (x2 := x2) h_o0 yR K1 (by have := yR.1 32 _ _ rfl; omega) I0.start) rfl (Nat.le_of_ble_eq_true rfl) (Nat.le_of_ble_eq_true rfl) (Nat.le_of_ble_eq_true rfl) (hst := rfl) (fun b56r M57 n58 b56 => ?_)
      obtain ⟨T59, J60, rfl, R64⟩ := b56
      have I61 := I0.call J60 (tm_sub (by decide)) (Or.inl rfl)
      have t65 := J60.up h_o0
      have z66 := (rv_c I0 J60 (I0.up h_o0) (k := 32) rfl)
      have K67 : ∀ i : Nat, i < 880 → 0 ≤ ra M57 o0 8 i := (by have e9 := ((sA_c I0 J60 (I0.up h_o0) (by decide +kernel)) : sA [8] _ _ _) 8 rfl; rw [e9]; exact K1)
      have q68 := J60.keep h_o0 (by decide) q2
      have q69 := J60.keep h_o0 (by decide) q5
      exact mv_vret d_TrustDeskModel_counts_117 rfl ⟨_, I61, rfl, R64⟩
  · refine mv_aload_n d_TrustDeskModel_counts_8 rfl rfl ?_
    refine mv_aload_n d_TrustDeskModel_counts_9 rfl rfl ?_
    obtain ⟨a71, q70, t_a71⟩ := tm_atR I0 h_o0 (k := 64) rfl
    refine tr_getK q70 d_TrustDeskModel_counts_10 f_TrustDeskModel_152_13 ?_
    obtain ⟨_, b78, -⟩ := I0.1 _ _ h_o0
    refine mv_callV (kc' := 0) (ks' := 0) (As := [.ref a71]) (st9 := [.ref a71, .ref o0]) d_TrustDeskModel_counts_13 lV_TrustDeskModel_567 b78 rfl (tc_TrustDeskModel_idle_q64_x (d := (d + 12)) (x9 := x9) (o0 := o0) (o1 := a71) h_o0 t_a71 yR K1 I0.start) rfl (Nat.le_of_ble_eq_true rfl) (Nat.le_of_ble_eq_true rfl) (Nat.le_of_ble_eq_true rfl) (hst := rfl) (fun b72r M73 n74 b72 => ?_)
    obtain ⟨T75, J76, v79, rfl, R80⟩ := b72
    have I77 := I0.call J76 (tm_sub (by decide)) (Or.inl rfl)
    have t81 := J76.up h_o0
    have z82 := (rv_c I0 J76 (I0.up h_o0) (k := 32) rfl)
    have K83 : ∀ i : Nat, i < 880 → 0 ≤ ra M73 o0 8 i := (by have e9 := ((sA_c I0 J76 (I0.up h_o0) (by decide +kernel)) : sA [8] _ _ _) 8 rfl; rw [e9]; exact K1)
    have q84 := J76.keep h_o0 (by decide) q2
    have q85 := J76.keep h_o0 (by decide) q70
    have t86 := J76.up t_a71
    refine mv_lstore_n (lv' := [(3, .long v79), (0, .ref o0), (1, .int x1), (2, .int x2)]) d_TrustDeskModel_counts_16 rfl (by decide) rfl ?_
    refine mv_lload_n d_TrustDeskModel_counts_17 rfl rfl ?_
    refine mv_lconst (v := 0) d_TrustDeskModel_counts_18 (by decide) ?_
    refine mv_lltZ (tgt := 56) (a := v79.toInt) (b := 0) d_TrustDeskModel_counts_19 d_TrustDeskModel_counts_20 (by decide) rfl (by decide) (fun b87 => ?_) (fun b87 => ?_)
    · exact mv_vret d_TrustDeskModel_counts_56 rfl ⟨_, I77, rfl, R80⟩
    · refine mv_aload_n d_TrustDeskModel_counts_23 rfl rfl ?_
      obtain ⟨v89, q88⟩ := tm_atI I77 t81 (k := 69) rfl
      refine tr_getK q88 d_TrustDeskModel_counts_24 f_TrustDeskModel_571_13 ?_
      have := mz_hi v89
      refine mv_if_eqZ (tgt := 57) (a := v89.toInt) d_TrustDeskModel_counts_27 (by decide) rfl (fun b90 => ?_) (fun b90 => ?_)
      · refine mv_aload_n d_TrustDeskModel_counts_57 rfl rfl ?_
        refine mv_lload_n d_TrustDeskModel_counts_58 rfl rfl ?_
        refine tr_putR (k := 68) I77 R80 t81 rfl ⟨_, rfl⟩ (fun _ h => by cases h) rfl (fun lo hi h => by cases h) (Or.inl (by decide)) d_TrustDeskModel_counts_59 p_TrustDeskModel_574_13 rfl rfl (fun M91 I92 q93 K94 R95 A96 V97 => ?_)
        have z98 := (V97 32 (by decide)).trans z82
        have K99 : ∀ i : Nat, i < 880 → 0 ≤ ra M91 o0 8 i := (by have e9 := ((sA_f A96 (by decide)) : sA [8] _ _ _) 8 rfl; rw [e9]; exact K83)
        clear z82
        refine mv_aload_n d_TrustDeskModel_counts_62 rfl rfl ?_
        refine mv_iload_n d_TrustDeskModel_counts_63 rfl rfl ?_
        refine tr_putR (k := 69) I92 R95 t81 rfl ⟨_, rfl⟩ (fun _ h => by cases h) rfl (fun lo hi h => by cases h) (Or.inl (by decide)) d_TrustDeskModel_counts_64 p_TrustDeskModel_571_13 rfl rfl (fun M100 I101 q102 K103 R104 A105 V106 => ?_)
        have z107 := (V106 32 (by decide)).trans z98
        have K108 : ∀ i : Nat, i < 880 → 0 ≤ ra M100 o0 8 i := (by have e9 := ((sA_f A105 (by decide)) : sA [8] _ _ _) 8 rfl; rw [e9]; exact K99)
        clear z98
        refine mv_iconst (v := 0) d_TrustDeskModel_counts_67 (by decide) ?_
        refine mv_istore (lv' := [(5, .int 0), (3, .long v79), (0, .ref o0), (1, .int x1), (2, .int x2)]) d_TrustDeskModel_counts_68 (by decide) rfl ?_
        have L70_109 : ∀ (k : Nat) (i5_109 : Int32) (T_109 : tm_H) (M_109 : mj_M) (n_109 : Nat), tm_I tm_FT (tm_in w_TrustDeskModel_counts_q12_x) x9 T0 M0 n0 T_109 M_109 n_109 → T_109 o0 = some (0, 13, 0) → 0 ≤ i5_109.toInt → (rI M_109 o0) → (∀ i : Nat, i < 880 → 0 ≤ ra M_109 o0 8 i) → 2147483647 - i5_109.toInt < (k : Int) → mj_V g l kY_TrustDeskModel_counts (d + 15) 70 [(5, .int i5_109), (3, .long v79), (0, .ref o0), (1, .int x1), (2, .int x2)] [] M_109 n_109 0 0 (tm_Q tm_FT (tm_in w_TrustDeskModel_counts_q12_x) x9 T0 M0 n0 (fun r _ M => r = none ∧ rI M o0)) := by
          intro k109
          induction k109 with
          | zero =>
            intro i5_109 T_109 M_109 n_109 I_109 h_q0_109 iv0_109 kKR_109 kK8_109 hk109
            have := mz_hi i5_109
            have := kKR_109.1 15 _ _ rfl
            have := kKR_109.1 16 _ _ rfl
            have := kKR_109.1 19 _ _ rfl
            omega
          | succ k109 ih109 =>
            intro i5_109 T_109 M_109 n_109 I_109 h_q0_109 iv0_109 kKR_109 kK8_109 hk109
            refine mv_iload d_TrustDeskModel_counts_70 rfl ?_
            refine mv_bipush (v := 12) d_TrustDeskModel_counts_72 (by decide) ?_
            have := mz_hi i5_109
            refine mv_icmp_geZ (tgt := 97) (a := i5_109.toInt) (b := 12) d_TrustDeskModel_counts_74 (by decide) rfl (by decide) (fun b110 => ?_) (fun b110 => ?_)
            · exact mv_vret d_TrustDeskModel_counts_97 rfl ⟨_, I_109, rfl, kKR_109⟩
            · refine mv_aload_n d_TrustDeskModel_counts_77 rfl rfl ?_
              obtain ⟨a112, q111, t_a112⟩ := tm_atR I_109 h_q0_109 (k := 65) rfl
              refine tr_getK q111 d_TrustDeskModel_counts_78 f_TrustDeskModel_155_13 ?_
              refine mv_iload d_TrustDeskModel_counts_81 rfl ?_
              refine mv_aload_n d_TrustDeskModel_counts_83 rfl rfl ?_
              obtain ⟨a114, q113, t_a114⟩ := tm_atR I_109 h_q0_109 (k := 64) rfl
              refine tr_getK q113 d_TrustDeskModel_counts_84 f_TrustDeskModel_152_13 ?_
              refine mv_iload d_TrustDeskModel_counts_87 rfl ?_
              refine tr_ialdR (o := o0) (k := 64) I_109 q113 t_a114 (by decide) d_TrustDeskModel_counts_89 (vp_in_iff.mpr (by have := kKR_109.1 32 _ _ rfl; omega)) (fun v115 e116 => ?_)
              refine tr_iastR (k := 65) I_109 kKR_109 (I_109.up h_o0) q111 t_a112 (by decide) (by decide) (fun lo hi h => by cases h) (Or.inl (by decide)) d_TrustDeskModel_counts_90 (vp_in_iff.mpr (by have := kKR_109.1 32 _ _ rfl; omega)) (fun M117 I118 K119 R120 E121 A122 V123 => ?_)
              have z124 := (V123 32)
              have K125 : ∀ i : Nat, i < 880 → 0 ≤ ra M117 o0 8 i := (by have e9 := ((sA_a A122 (by decide +kernel)) : sA [8] _ _ _) 8 rfl; rw [e9]; exact kK8_109)
              refine mv_iinc (v := (i5_109 + 1)) (lv' := [(5, .int (i5_109 + 1)), (3, .long v79), (0, .ref o0), (1, .int x1), (2, .int x2)]) d_TrustDeskModel_counts_91 rfl rfl (by decide) rfl ?_
              refine mv_goto (tgt := 70) d_TrustDeskModel_counts_94 (by decide) ?_
              have b126 : (i5_109 + 1 : Int32).toInt = (i5_109.toInt + 1) := mz_add2 rfl (by decide) (by have := R120.1 32 _ _ rfl; omega) (by have := R120.1 32 _ _ rfl; omega)
              have b127 : (i5_109 + 1).toInt = i5_109.toInt + 1 := mz_addn 1 1 (by decide) (by have := mz_lo i5_109; omega) (by have := mz_hi i5_109; omega)
              exact (ih109 (i5_109 + 1) T_109 M117 n_109 I118 h_q0_109 (by have := R120.1 32 _ _ rfl; first | omega | decide | exact fun h9 => absurd (by decide) h9) R120 K125 (by have := R120.1 32 _ _ rfl; omega))
        have : (0 : Int32).toInt = 0 := by decide
        exact mv_less (Nat.zero_le _) (Nat.zero_le _) (L70_109 4294967296 0 T75 M100 n74 I101 t81 (by have := R104.1 32 _ _ rfl; first | omega | decide | exact fun h9 => absurd (by decide) h9) R104 K108 (by show (2147483647 - (0 : Int) : Int) < _; decide))
      · refine mv_lload_n d_TrustDeskModel_counts_30 rfl rfl ?_
        refine mv_aload_n d_TrustDeskModel_counts_31 rfl rfl ?_
        obtain ⟨v129, q128⟩ := tm_atL I77 t81 (k := 68) rfl
        refine tr_getK q128 d_TrustDeskModel_counts_32 f_TrustDeskModel_574_13 ?_
        refine mv_lgtZ (tgt := 56) (a := v79.toInt) (b := v129.toInt) d_TrustDeskModel_counts_35 d_TrustDeskModel_counts_36 (by decide) rfl rfl (fun b130 => ?_) (fun b130 => ?_)
        · exact mv_vret d_TrustDeskModel_counts_56 rfl ⟨_, I77, rfl, R80⟩
        · refine mv_lload_n d_TrustDeskModel_counts_39 rfl rfl ?_
          refine mv_aload_n d_TrustDeskModel_counts_40 rfl rfl ?_
          refine tr_getK (k := 68) q128 d_TrustDeskModel_counts_41 f_TrustDeskModel_574_13 ?_
          refine mv_lneZ (tgt := 57) (a := v79.toInt) (b := v129.toInt) d_TrustDeskModel_counts_44 d_TrustDeskModel_counts_45 (by decide) rfl rfl (fun b131 => ?_) (fun b131 => ?_)
          · refine mv_aload_n d_TrustDeskModel_counts_57 rfl rfl ?_
            refine mv_lload_n d_TrustDeskModel_counts_58 rfl rfl ?_
            refine tr_putR (k := 68) I77 R80 t81 rfl ⟨_, rfl⟩ (fun _ h => by cases h) rfl (fun lo hi h => by cases h) (Or.inl (by decide)) d_TrustDeskModel_counts_59 p_TrustDeskModel_574_13 rfl rfl (fun M132 I133 q134 K135 R136 A137 V138 => ?_)
            have z139 := (V138 32 (by decide)).trans z82
            have K140 : ∀ i : Nat, i < 880 → 0 ≤ ra M132 o0 8 i := (by have e9 := ((sA_f A137 (by decide)) : sA [8] _ _ _) 8 rfl; rw [e9]; exact K83)
            clear z82
            refine mv_aload_n d_TrustDeskModel_counts_62 rfl rfl ?_
            refine mv_iload_n d_TrustDeskModel_counts_63 rfl rfl ?_
            refine tr_putR (k := 69) I133 R136 t81 rfl ⟨_, rfl⟩ (fun _ h => by cases h) rfl (fun lo hi h => by cases h) (Or.inl (by decide)) d_TrustDeskModel_counts_64 p_TrustDeskModel_571_13 rfl rfl (fun M141 I142 q143 K144 R145 A146 V147 => ?_)
            have z148 := (V147 32 (by decide)).trans z139
            have K149 : ∀ i : Nat, i < 880 → 0 ≤ ra M141 o0 8 i := (by have e9 := ((sA_f A146 (by decide)) : sA [8] _ _ _) 8 rfl; rw [e9]; exact K140)
            clear z139
            refine mv_iconst (v := 0) d_TrustDeskModel_counts_67 (by decide) ?_
            refine mv_istore (lv' := [(5, .int 0), (3, .long v79), (0, .ref o0), (1, .int x1), (2, .int x2)]) d_TrustDeskModel_counts_68 (by decide) rfl ?_
            have L70_150 : ∀ (k : Nat) (i5_150 : Int32) (T_150 : tm_H) (M_150 : mj_M) (n_150 : Nat), tm_I tm_FT (tm_in w_TrustDeskModel_counts_q12_x) x9 T0 M0 n0 T_150 M_150 n_150 → T_150 o0 = some (0, 13, 0) → 0 ≤ i5_150.toInt → (rI M_150 o0) → (∀ i : Nat, i < 880 → 0 ≤ ra M_150 o0 8 i) → 2147483647 - i5_150.toInt < (k : Int) → mj_V g l kY_TrustDeskModel_counts (d + 15) 70 [(5, .int i5_150), (3, .long v79), (0, .ref o0), (1, .int x1), (2, .int x2)] [] M_150 n_150 0 0 (tm_Q tm_FT (tm_in w_TrustDeskModel_counts_q12_x) x9 T0 M0 n0 (fun r _ M => r = none ∧ rI M o0)) := by
              intro k150
              induction k150 with
              | zero =>
                intro i5_150 T_150 M_150 n_150 I_150 h_q0_150 iv0_150 kKR_150 kK8_150 hk150
                have := mz_hi i5_150
                have := kKR_150.1 15 _ _ rfl
                have := kKR_150.1 16 _ _ rfl
                have := kKR_150.1 19 _ _ rfl
                omega
              | succ k150 ih150 =>
                intro i5_150 T_150 M_150 n_150 I_150 h_q0_150 iv0_150 kKR_150 kK8_150 hk150
                refine mv_iload d_TrustDeskModel_counts_70 rfl ?_
                refine mv_bipush (v := 12) d_TrustDeskModel_counts_72 (by decide) ?_
                have := mz_hi i5_150
                refine mv_icmp_geZ (tgt := 97) (a := i5_150.toInt) (b := 12) d_TrustDeskModel_counts_74 (by decide) rfl (by decide) (fun b151 => ?_) (fun b151 => ?_)
                · exact mv_vret d_TrustDeskModel_counts_97 rfl ⟨_, I_150, rfl, kKR_150⟩
                · refine mv_aload_n d_TrustDeskModel_counts_77 rfl rfl ?_
                  obtain ⟨a153, q152, t_a153⟩ := tm_atR I_150 h_q0_150 (k := 65) rfl
                  refine tr_getK q152 d_TrustDeskModel_counts_78 f_TrustDeskModel_155_13 ?_
                  refine mv_iload d_TrustDeskModel_counts_81 rfl ?_
                  refine mv_aload_n d_TrustDeskModel_counts_83 rfl rfl ?_
                  obtain ⟨a155, q154, t_a155⟩ := tm_atR I_150 h_q0_150 (k := 64) rfl
                  refine tr_getK q154 d_TrustDeskModel_counts_84 f_TrustDeskModel_152_13 ?_
                  refine mv_iload d_TrustDeskModel_counts_87 rfl ?_
                  refine tr_ialdR (o := o0) (k := 64) I_150 q154 t_a155 (by decide) d_TrustDeskModel_counts_89 (vp_in_iff.mpr (by have := kKR_150.1 32 _ _ rfl; omega)) (fun v156 e157 => ?_)
                  refine tr_iastR (k := 65) I_150 kKR_150 (I_150.up h_o0) q152 t_a153 (by decide) (by decide) (fun lo hi h => by cases h) (Or.inl (by decide)) d_TrustDeskModel_counts_90 (vp_in_iff.mpr (by have := kKR_150.1 32 _ _ rfl; omega)) (fun M158 I159 K160 R161 E162 A163 V164 => ?_)
                  have z165 := (V164 32)
                  have K166 : ∀ i : Nat, i < 880 → 0 ≤ ra M158 o0 8 i := (by have e9 := ((sA_a A163 (by decide +kernel)) : sA [8] _ _ _) 8 rfl; rw [e9]; exact kK8_150)
                  refine mv_iinc (v := (i5_150 + 1)) (lv' := [(5, .int (i5_150 + 1)), (3, .long v79), (0, .ref o0), (1, .int x1), (2, .int x2)]) d_TrustDeskModel_counts_91 rfl rfl (by decide) rfl ?_
                  refine mv_goto (tgt := 70) d_TrustDeskModel_counts_94 (by decide) ?_
                  have b167 : (i5_150 + 1 : Int32).toInt = (i5_150.toInt + 1) := mz_add2 rfl (by decide) (by have := R161.1 32 _ _ rfl; omega) (by have := R161.1 32 _ _ rfl; omega)
                  have b168 : (i5_150 + 1).toInt = i5_150.toInt + 1 := mz_addn 1 1 (by decide) (by have := mz_lo i5_150; omega) (by have := mz_hi i5_150; omega)
                  exact (ih150 (i5_150 + 1) T_150 M158 n_150 I159 h_q0_150 (by have := R161.1 32 _ _ rfl; first | omega | decide | exact fun h9 => absurd (by decide) h9) R161 K166 (by have := R161.1 32 _ _ rfl; omega))
            have : (0 : Int32).toInt = 0 := by decide
            exact mv_less (Nat.zero_le _) (Nat.zero_le _) (L70_150 4294967296 0 T75 M141 n74 I142 t81 (by have := R145.1 32 _ _ rfl; first | omega | decide | exact fun h9 => absurd (by decide) h9) R145 K149 (by show (2147483647 - (0 : Int) : Int) < _; decide))
          · refine mv_iload_n d_TrustDeskModel_counts_48 rfl rfl ?_
            refine mv_aload_n d_TrustDeskModel_counts_49 rfl rfl ?_
            refine tr_getK (k := 69) q88 d_TrustDeskModel_counts_50 f_TrustDeskModel_571_13 ?_
            have := mz_hi x2
            have := mz_hi v89
            refine mv_icmp_ltZ (tgt := 57) (a := x2.toInt) (b := v89.toInt) d_TrustDeskModel_counts_53 (by decide) rfl rfl (fun b169 => ?_) (fun b169 => ?_)
            · refine mv_aload_n d_TrustDeskModel_counts_57 rfl rfl ?_
              refine mv_lload_n d_TrustDeskModel_counts_58 rfl rfl ?_
              refine tr_putR (k := 68) I77 R80 t81 rfl ⟨_, rfl⟩ (fun _ h => by cases h) rfl (fun lo hi h => by cases h) (Or.inl (by decide)) d_TrustDeskModel_counts_59 p_TrustDeskModel_574_13 rfl rfl (fun M170 I171 q172 K173 R174 A175 V176 => ?_)
              have z177 := (V176 32 (by decide)).trans z82
              have K178 : ∀ i : Nat, i < 880 → 0 ≤ ra M170 o0 8 i := (by have e9 := ((sA_f A175 (by decide)) : sA [8] _ _ _) 8 rfl; rw [e9]; exact K83)
              clear z82
              refine mv_aload_n d_TrustDeskModel_counts_62 rfl rfl ?_
              refine mv_iload_n d_TrustDeskModel_counts_63 rfl rfl ?_
              refine tr_putR (k := 69) I171 R174 t81 rfl ⟨_, rfl⟩ (fun _ h => by cases h) rfl (fun lo hi h => by cases h) (Or.inl (by decide)) d_TrustDeskModel_counts_64 p_TrustDeskModel_571_13 rfl rfl (fun M179 I180 q181 K182 R183 A184 V185 => ?_)
              have z186 := (V185 32 (by decide)).trans z177
              have K187 : ∀ i : Nat, i < 880 → 0 ≤ ra M179 o0 8 i := (by have e9 := ((sA_f A184 (by decide)) : sA [8] _ _ _) 8 rfl; rw [e9]; exact K178)
              clear z177
              refine mv_iconst (v := 0) d_TrustDeskModel_counts_67 (by decide) ?_
              refine mv_istore (lv' := [(5, .int 0), (3, .long v79), (0, .ref o0), (1, .int x1), (2, .int x2)]) d_TrustDeskModel_counts_68 (by decide) rfl ?_
              have L70_188 : ∀ (k : Nat) (i5_188 : Int32) (T_188 : tm_H) (M_188 : mj_M) (n_188 : Nat), tm_I tm_FT (tm_in w_TrustDeskModel_counts_q12_x) x9 T0 M0 n0 T_188 M_188 n_188 → T_188 o0 = some (0, 13, 0) → 0 ≤ i5_188.toInt → (rI M_188 o0) → (∀ i : Nat, i < 880 → 0 ≤ ra M_188 o0 8 i) → 2147483647 - i5_188.toInt < (k : Int) → mj_V g l kY_TrustDeskModel_counts (d + 15) 70 [(5, .int i5_188), (3, .long v79), (0, .ref o0), (1, .int x1), (2, .int x2)] [] M_188 n_188 0 0 (tm_Q tm_FT (tm_in w_TrustDeskModel_counts_q12_x) x9 T0 M0 n0 (fun r _ M => r = none ∧ rI M o0)) := by
                intro k188
                induction k188 with
                | zero =>
                  intro i5_188 T_188 M_188 n_188 I_188 h_q0_188 iv0_188 kKR_188 kK8_188 hk188
                  have := mz_hi i5_188
                  have := kKR_188.1 15 _ _ rfl
                  have := kKR_188.1 16 _ _ rfl
                  have := kKR_188.1 19 _ _ rfl
                  omega
                | succ k188 ih188 =>
                  intro i5_188 T_188 M_188 n_188 I_188 h_q0_188 iv0_188 kKR_188 kK8_188 hk188
                  refine mv_iload d_TrustDeskModel_counts_70 rfl ?_
                  refine mv_bipush (v := 12) d_TrustDeskModel_counts_72 (by decide) ?_
                  have := mz_hi i5_188
                  refine mv_icmp_geZ (tgt := 97) (a := i5_188.toInt) (b := 12) d_TrustDeskModel_counts_74 (by decide) rfl (by decide) (fun b189 => ?_) (fun b189 => ?_)
                  · exact mv_vret d_TrustDeskModel_counts_97 rfl ⟨_, I_188, rfl, kKR_188⟩
                  · refine mv_aload_n d_TrustDeskModel_counts_77 rfl rfl ?_
                    obtain ⟨a191, q190, t_a191⟩ := tm_atR I_188 h_q0_188 (k := 65) rfl
                    refine tr_getK q190 d_TrustDeskModel_counts_78 f_TrustDeskModel_155_13 ?_
                    refine mv_iload d_TrustDeskModel_counts_81 rfl ?_
                    refine mv_aload_n d_TrustDeskModel_counts_83 rfl rfl ?_
                    obtain ⟨a193, q192, t_a193⟩ := tm_atR I_188 h_q0_188 (k := 64) rfl
                    refine tr_getK q192 d_TrustDeskModel_counts_84 f_TrustDeskModel_152_13 ?_
                    refine mv_iload d_TrustDeskModel_counts_87 rfl ?_
                    refine tr_ialdR (o := o0) (k := 64) I_188 q192 t_a193 (by decide) d_TrustDeskModel_counts_89 (vp_in_iff.mpr (by have := kKR_188.1 32 _ _ rfl; omega)) (fun v194 e195 => ?_)
                    refine tr_iastR (k := 65) I_188 kKR_188 (I_188.up h_o0) q190 t_a191 (by decide) (by decide) (fun lo hi h => by cases h) (Or.inl (by decide)) d_TrustDeskModel_counts_90 (vp_in_iff.mpr (by have := kKR_188.1 32 _ _ rfl; omega)) (fun M196 I197 K198 R199 E200 A201 V202 => ?_)
                    have z203 := (V202 32)
                    have K204 : ∀ i : Nat, i < 880 → 0 ≤ ra M196 o0 8 i := (by have e9 := ((sA_a A201 (by decide +kernel)) : sA [8] _ _ _) 8 rfl; rw [e9]; exact kK8_188)
                    refine mv_iinc (v := (i5_188 + 1)) (lv' := [(5, .int (i5_188 + 1)), (3, .long v79), (0, .ref o0), (1, .int x1), (2, .int x2)]) d_TrustDeskModel_counts_91 rfl rfl (by decide) rfl ?_
                    refine mv_goto (tgt := 70) d_TrustDeskModel_counts_94 (by decide) ?_
                    have b205 : (i5_188 + 1 : Int32).toInt = (i5_188.toInt + 1) := mz_add2 rfl (by decide) (by have := R199.1 32 _ _ rfl; omega) (by have := R199.1 32 _ _ rfl; omega)
                    have b206 : (i5_188 + 1).toInt = i5_188.toInt + 1 := mz_addn 1 1 (by decide) (by have := mz_lo i5_188; omega) (by have := mz_hi i5_188; omega)
                    exact (ih188 (i5_188 + 1) T_188 M196 n_188 I197 h_q0_188 (by have := R199.1 32 _ _ rfl; first | omega | decide | exact fun h9 => absurd (by decide) h9) R199 K204 (by have := R199.1 32 _ _ rfl; omega))
              have : (0 : Int32).toInt = 0 := by decide
              exact mv_less (Nat.zero_le _) (Nat.zero_le _) (L70_188 4294967296 0 T75 M179 n74 I180 t81 (by have := R183.1 32 _ _ rfl; first | omega | decide | exact fun h9 => absurd (by decide) h9) R183 K187 (by show (2147483647 - (0 : Int) : Int) < _; decide))
            · exact mv_vret d_TrustDeskModel_counts_56 rfl ⟨_, I77, rfl, R80⟩
theorem d_TrustDeskModel_groups_31 : decode kY_TrustDeskModel_groups.2.1 31 = .ok (.iconst 1, 1) := by decide +kernel
theorem d_TrustDeskModel_groups_32 : decode kY_TrustDeskModel_groups.2.1 32 = .ok (.ireturn, 1) := by decide +kernel
theorem d_TrustDeskModel_groups_8 : decode kY_TrustDeskModel_groups.2.1 8 = .ok (.iconst 0, 1) := by decide +kernel
theorem d_TrustDeskModel_groups_9 : decode kY_TrustDeskModel_groups.2.1 9 = .ok (.ireturn, 1) := by decide +kernel
def w_TrustDeskModel_groups_x : List Nat := [1331, 1367, 1368, 1369, 20029, 20030, 20063, 20064, 20065]
set_option maxHeartbeats 100000000 in theorem tc_TrustDeskModel_groups_x {g : mj_G} {l : Launch} {d : Nat} {T0 : tm_H} {M0 : mj_M} {n0 x9 : Nat} {o0 : Nat} {x1 : Int32} (h_o0 : T0 o0 = some (0, 13, 0)) (yR : rI M0 o0) (yC : rC M0 o0 44) (I0 : tm_I tm_FT (tm_in w_TrustDeskModel_groups_x) x9 T0 M0 n0 T0 M0 n0) : mj_Met g l kY_TrustDeskModel_groups (d + 16) [.ref o0, .int x1] M0 n0 0 0 (tm_Q tm_FT (tm_in w_TrustDeskModel_groups_x) x9 T0 M0 n0 (fun r _ M => ∃ v : Int32, r = some (.int v) ∧ 0 ≤ v.toInt ∧ v.toInt ≤ 1 ∧ rI M o0)) := by
  refine mj_enter (by decide) (Nat.le_of_ble_eq_true rfl) ?_
  have K1 : rC M0 o0 44 := yC
  refine mv_aload_n d_TrustDeskModel_groups_0 rfl rfl ?_
  refine mv_iload_n d_TrustDeskModel_groups_1 rfl rfl ?_
  obtain ⟨_, b8, -⟩ := I0.1 _ _ h_o0
  refine mv_callV (kc' := 0) (ks' := 0) (As := [.int x1]) (st9 := [.int x1, .ref o0]) d_TrustDeskModel_groups_2 lV_TrustDeskModel_581 b8 rfl (tc_TrustDeskModel_areAsked_x (d := (d + 13)) (x9 := x9) (o0 := o0) (x1 := x1) h_o0 yR I0.start) rfl (Nat.le_of_ble_eq_true rfl) (Nat.le_of_ble_eq_true rfl) (Nat.le_of_ble_eq_true rfl) (hst := rfl) (fun b2r M3 n4 b2 => ?_)
  obtain ⟨T5, J6, v9, rfl, b10, b11, R12⟩ := b2
  have I7 := I0.call J6 (tm_sub (by decide)) (Or.inl rfl)
  have t13 := J6.up h_o0
  have z14 := (rv_c I0 J6 (I0.up h_o0) (k := 32) rfl)
  have K15 : rC M3 o0 44 := K1.same (sA_c I0 J6 (I0.up h_o0) (by decide +kernel)) (sF_c I0 J6 (I0.up h_o0) (by decide +kernel))
  have := mz_hi v9
  refine mv_if_neZ (tgt := 10) (a := v9.toInt) d_TrustDeskModel_groups_5 (by decide) rfl (fun b16 => ?_) (fun b16 => ?_)
  · refine mv_aload_n d_TrustDeskModel_groups_10 rfl rfl ?_
    refine mv_iload_n d_TrustDeskModel_groups_11 rfl rfl ?_
    obtain ⟨_, b23, -⟩ := I7.1 _ _ t13
    refine mv_callV (kc' := 0) (ks' := 0) (As := [.int x1]) (st9 := [.int x1, .ref o0]) d_TrustDeskModel_groups_12 lV_TrustDeskModel_584 b23 rfl (tc_TrustDeskModel_findOver_x (d := (d + 11)) (x9 := x9) (o0 := o0) (x1 := x1) t13 R12 K15 I7.start) rfl (Nat.le_of_ble_eq_true rfl) (Nat.le_of_ble_eq_true rfl) (Nat.le_of_ble_eq_true rfl) (hst := rfl) (fun b17r M18 n19 b17 => ?_)
    obtain ⟨T20, J21, rfl, R24⟩ := b17
    have I22 := I7.call J21 (tm_sub (by decide)) (Or.inl rfl)
    have t25 := J21.up t13
    have z26 := (rv_c I7 J21 (I7.up h_o0) (k := 32) rfl).trans z14
    have K27 : rC M18 o0 44 := K15.same (sA_c I7 J21 (I7.up h_o0) (by decide +kernel)) (sF_c I7 J21 (I7.up h_o0) (by decide +kernel))
    clear z14
    refine mv_aload_n d_TrustDeskModel_groups_15 rfl rfl ?_
    refine mv_iconst (v := 0) d_TrustDeskModel_groups_16 (by decide) ?_
    refine tr_putR (k := 69) I22 R24 t25 rfl ⟨_, rfl⟩ (fun _ h => by cases h) rfl (fun lo hi h => by cases h) (Or.inl (by decide)) d_TrustDeskModel_groups_17 p_TrustDeskModel_571_13 rfl rfl (fun M28 I29 q30 K31 R32 A33 V34 => ?_)
    have z35 := (V34 32 (by decide)).trans z26
    have K36 : rC M28 o0 44 := K27.same (sA_f A33 (by decide)) (sF_f V34 (by decide))
    clear z26
    refine mv_aload_n d_TrustDeskModel_groups_20 rfl rfl ?_
    refine mv_lconst (v := 0) d_TrustDeskModel_groups_21 (by decide) ?_
    refine tr_putR (k := 68) I29 R32 t25 rfl ⟨_, rfl⟩ (fun _ h => by cases h) rfl (fun lo hi h => by cases h) (Or.inl (by decide)) d_TrustDeskModel_groups_22 p_TrustDeskModel_574_13 rfl rfl (fun M37 I38 q39 K40 R41 A42 V43 => ?_)
    have z44 := (V43 32 (by decide)).trans z35
    have K45 : rC M37 o0 44 := K36.same (sA_f A42 (by decide)) (sF_f V43 (by decide))
    clear z35
    refine mv_aload_n d_TrustDeskModel_groups_25 rfl rfl ?_
    refine mv_iconst (v := 0) d_TrustDeskModel_groups_26 (by decide) ?_
    refine mv_iconst (v := 0) d_TrustDeskModel_groups_27 (by decide) ?_
    obtain ⟨_, b52, -⟩ := I38.1 _ _ t25
    have : (0 : Int32).toInt = 0 := by decide
    have : (0 : Int32).toInt = 0 := by decide
    refine mv_callV (kc' := 0) (ks' := 0) (As := [.int 0, .int 0]) (st9 := [.int 0, .int 0, .ref o0]) d_TrustDeskModel_groups_28 lV_TrustDeskModel_578 b52 rfl (tc_TrustDeskModel_counts_q12_x (d := d) (x9 := x9) (o0 := o0) (x1 := 0) (x2 := 0) t25 R41 K45.2.2.1 (by have := R41.1 32 _ _ rfl; omega) I38.start) rfl (Nat.le_of_ble_eq_true rfl) (Nat.le_of_ble_eq_true rfl) (Nat.le_of_ble_eq_true rfl) (hst := rfl) (fun b46r M47 n48 b46 => ?_)
    obtain ⟨T49, J50, rfl, R53⟩ := b46
    have I51 := I38.call J50 (tm_sub (by decide)) (Or.inl rfl)
    have t54 := J50.up t25
    have z55 := (rv_c I38 J50 (I38.up h_o0) (k := 32) rfl).trans z44
    have K56 : rC M47 o0 44 := K45.same (sA_c I38 J50 (I38.up h_o0) (by decide +kernel)) (sF_c I38 J50 (I38.up h_o0) (by decide +kernel))
    clear z44
    refine mv_iconst (v := 1) d_TrustDeskModel_groups_31 (by decide) ?_
    exact mv_iret d_TrustDeskModel_groups_32 rfl (by decide) ⟨_, I51, _, rfl, by decide, by decide, R53⟩
  · refine mv_iconst (v := 0) d_TrustDeskModel_groups_8 (by decide) ?_
    exact mv_iret d_TrustDeskModel_groups_9 rfl (by decide) ⟨_, I7, _, rfl, by decide, by decide, R12⟩
abbrev kY_TrustDeskModel_group : mj_Y := (⟨"TrustDeskModel", "group", "(I)J"⟩, prog_14_method_97_code, 2, (Option.some Jvm.ClassFile.FieldType.long))
theorem d_TrustDeskModel_group_0 : decode kY_TrustDeskModel_group.2.1 0 = .ok (.aload_n 0, 1) := by decide +kernel
theorem d_TrustDeskModel_group_1 : decode kY_TrustDeskModel_group.2.1 1 = .ok (.iconst 0, 1) := by decide +kernel
theorem d_TrustDeskModel_group_2 : decode kY_TrustDeskModel_group.2.1 2 = .ok (.putfield 1, 3) := by decide +kernel
theorem d_TrustDeskModel_group_5 : decode kY_TrustDeskModel_group.2.1 5 = .ok (.aload_n 0, 1) := by decide +kernel
theorem d_TrustDeskModel_group_6 : decode kY_TrustDeskModel_group.2.1 6 = .ok (.iload_n 1, 1) := by decide +kernel
theorem d_TrustDeskModel_group_7 : decode kY_TrustDeskModel_group.2.1 7 = .ok (.invokevirtual 587, 3) := by decide +kernel
theorem lV_TrustDeskModel_587 : mj_lV "TrustDeskModel" 587 kY_TrustDeskModel_groups 1 := ⟨⟨(mj_in1 (List.mem_of_getElem? (i := 2014) (by decide +kernel)) rfl), (mj_in1 (List.mem_of_getElem? (i := 10) (by decide +kernel)) rfl), (mj_in1 (List.mem_of_getElem? (i := 2017) (by decide +kernel)) rfl), by decide, rfl, by decide⟩, (mj_in1 (List.mem_of_getElem? (i := 2016) (by decide +kernel)) rfl), (mj_in (List.mem_append_left _ (List.mem_of_getElem? (i := 138) (by decide +kernel))) rfl)⟩
theorem d_TrustDeskModel_group_10 : decode kY_TrustDeskModel_group.2.1 10 = .ok (.ifCond .eq 10, 3) := by decide +kernel
theorem d_TrustDeskModel_group_20 : decode kY_TrustDeskModel_group.2.1 20 = .ok (.ldc2_w 590, 3) := by decide +kernel
theorem d_TrustDeskModel_group_23 : decode kY_TrustDeskModel_group.2.1 23 = .ok (.lreturn, 1) := by decide +kernel
theorem d_TrustDeskModel_group_13 : decode kY_TrustDeskModel_group.2.1 13 = .ok (.aload_n 0, 1) := by decide +kernel
theorem d_TrustDeskModel_group_14 : decode kY_TrustDeskModel_group.2.1 14 = .ok (.getfield 574, 3) := by decide +kernel
theorem d_TrustDeskModel_group_17 : decode kY_TrustDeskModel_group.2.1 17 = .ok (.goto 6, 3) := by decide +kernel
def w_TrustDeskModel_group_x : List Nat := [1300, 1331, 1367, 1368, 1369, 20029, 20030, 20063, 20064, 20065]
set_option maxHeartbeats 100000000 in theorem tc_TrustDeskModel_group_x {g : mj_G} {l : Launch} {d : Nat} {T0 : tm_H} {M0 : mj_M} {n0 x9 : Nat} {o0 : Nat} {x1 : Int32} (h_o0 : T0 o0 = some (0, 13, 0)) (yR : rI M0 o0) (yC : rC M0 o0 44) (I0 : tm_I tm_FT (tm_in w_TrustDeskModel_group_x) x9 T0 M0 n0 T0 M0 n0) : mj_Met g l kY_TrustDeskModel_group (d + 17) [.ref o0, .int x1] M0 n0 0 0 (tm_Q tm_FT (tm_in w_TrustDeskModel_group_x) x9 T0 M0 n0 (fun r _ M => ∃ v : Int64, r = some (.long v) ∧ rI M o0)) := by
  refine mj_enter (by decide) (Nat.le_of_ble_eq_true rfl) ?_
  have K1 : rC M0 o0 44 := yC
  refine mv_aload_n d_TrustDeskModel_group_0 rfl rfl ?_
  refine mv_iconst (v := 0) d_TrustDeskModel_group_1 (by decide) ?_
  refine tr_putR (k := 0) I0 yR h_o0 rfl ⟨_, rfl⟩ (fun _ h => by cases h) rfl (fun lo hi h => by cases h) (Or.inl (by decide)) d_TrustDeskModel_group_2 p_TrustDeskModel_1_13 rfl rfl (fun M2 I3 q4 K5 R6 A7 V8 => ?_)
  have K9 : rC M2 o0 44 := K1.same (sA_f A7 (by decide)) (sF_f V8 (by decide))
  refine mv_aload_n d_TrustDeskModel_group_5 rfl rfl ?_
  refine mv_iload_n d_TrustDeskModel_group_6 rfl rfl ?_
  obtain ⟨_, b16, -⟩ := I3.1 _ _ h_o0
  refine mv_callV (kc' := 0) (ks' := 0) (As := [.int x1]) (st9 := [.int x1, .ref o0]) d_TrustDeskModel_group_7 lV_TrustDeskModel_587 b16 rfl (tc_TrustDeskModel_groups_x (d := d) (x9 := x9) (o0 := o0) (x1 := x1) h_o0 R6 K9 I3.start) rfl (Nat.le_of_ble_eq_true rfl) (Nat.le_of_ble_eq_true rfl) (Nat.le_of_ble_eq_true rfl) (hst := rfl) (fun b10r M11 n12 b10 => ?_)
  obtain ⟨T13, J14, v17, rfl, b18, b19, R20⟩ := b10
  have I15 := I3.call J14 (tm_sub (by decide)) (Or.inl rfl)
  have t21 := J14.up h_o0
  have K22 : rC M11 o0 44 := K9.same (sA_c I3 J14 (I3.up h_o0) (by decide +kernel)) (sF_c I3 J14 (I3.up h_o0) (by decide +kernel))
  have q23 := J14.keep h_o0 (by decide) q4
  have := mz_hi v17
  refine mv_if_eqZ (tgt := 20) (a := v17.toInt) d_TrustDeskModel_group_10 (by decide) rfl (fun b24 => ?_) (fun b24 => ?_)
  · refine mv_ldc2 d_TrustDeskModel_group_20 k_TrustDeskModel_590 ?_
    exact mv_lret d_TrustDeskModel_group_23 rfl ⟨_, I15, _, rfl, R20⟩
  · refine mv_aload_n d_TrustDeskModel_group_13 rfl rfl ?_
    obtain ⟨v26, q25⟩ := tm_atL I15 t21 (k := 68) rfl
    refine tr_getK q25 d_TrustDeskModel_group_14 f_TrustDeskModel_574_13 ?_
    refine mv_goto (tgt := 23) d_TrustDeskModel_group_17 (by decide) ?_
    exact mv_lret d_TrustDeskModel_group_23 rfl ⟨_, I15, _, rfl, R20⟩
abbrev kY_TrustDeskModel_grouped : mj_Y := (⟨"TrustDeskModel", "grouped", "(II)I"⟩, prog_14_method_98_code, 3, (Option.some Jvm.ClassFile.FieldType.int))
theorem d_TrustDeskModel_grouped_0 : decode kY_TrustDeskModel_grouped.2.1 0 = .ok (.aload_n 0, 1) := by decide +kernel
theorem d_TrustDeskModel_grouped_1 : decode kY_TrustDeskModel_grouped.2.1 1 = .ok (.iconst 0, 1) := by decide +kernel
theorem d_TrustDeskModel_grouped_2 : decode kY_TrustDeskModel_grouped.2.1 2 = .ok (.putfield 1, 3) := by decide +kernel
theorem d_TrustDeskModel_grouped_5 : decode kY_TrustDeskModel_grouped.2.1 5 = .ok (.aload_n 0, 1) := by decide +kernel
theorem d_TrustDeskModel_grouped_6 : decode kY_TrustDeskModel_grouped.2.1 6 = .ok (.iload_n 2, 1) := by decide +kernel
theorem d_TrustDeskModel_grouped_7 : decode kY_TrustDeskModel_grouped.2.1 7 = .ok (.invokevirtual 418, 3) := by decide +kernel
theorem d_TrustDeskModel_grouped_10 : decode kY_TrustDeskModel_grouped.2.1 10 = .ok (.ifCond .eq 29, 3) := by decide +kernel
theorem d_TrustDeskModel_grouped_39 : decode kY_TrustDeskModel_grouped.2.1 39 = .ok (.iconst (-1), 1) := by decide +kernel
theorem d_TrustDeskModel_grouped_40 : decode kY_TrustDeskModel_grouped.2.1 40 = .ok (.ireturn, 1) := by decide +kernel
theorem d_TrustDeskModel_grouped_13 : decode kY_TrustDeskModel_grouped.2.1 13 = .ok (.iload_n 1, 1) := by decide +kernel
theorem d_TrustDeskModel_grouped_14 : decode kY_TrustDeskModel_grouped.2.1 14 = .ok (.iload_n 2, 1) := by decide +kernel
theorem d_TrustDeskModel_grouped_15 : decode kY_TrustDeskModel_grouped.2.1 15 = .ok (.ishr, 1) := by decide +kernel
theorem d_TrustDeskModel_grouped_16 : decode kY_TrustDeskModel_grouped.2.1 16 = .ok (.iconst 1, 1) := by decide +kernel
theorem d_TrustDeskModel_grouped_17 : decode kY_TrustDeskModel_grouped.2.1 17 = .ok (.iand, 1) := by decide +kernel
theorem d_TrustDeskModel_grouped_18 : decode kY_TrustDeskModel_grouped.2.1 18 = .ok (.iconst 1, 1) := by decide +kernel
theorem d_TrustDeskModel_grouped_19 : decode kY_TrustDeskModel_grouped.2.1 19 = .ok (.if_icmp .ne 20, 3) := by decide +kernel
theorem d_TrustDeskModel_grouped_22 : decode kY_TrustDeskModel_grouped.2.1 22 = .ok (.aload_n 0, 1) := by decide +kernel
theorem d_TrustDeskModel_grouped_23 : decode kY_TrustDeskModel_grouped.2.1 23 = .ok (.iload_n 1, 1) := by decide +kernel
theorem d_TrustDeskModel_grouped_24 : decode kY_TrustDeskModel_grouped.2.1 24 = .ok (.invokevirtual 587, 3) := by decide +kernel
theorem d_TrustDeskModel_grouped_27 : decode kY_TrustDeskModel_grouped.2.1 27 = .ok (.ifCond .eq 12, 3) := by decide +kernel
theorem d_TrustDeskModel_grouped_30 : decode kY_TrustDeskModel_grouped.2.1 30 = .ok (.aload_n 0, 1) := by decide +kernel
theorem d_TrustDeskModel_grouped_31 : decode kY_TrustDeskModel_grouped.2.1 31 = .ok (.getfield 155, 3) := by decide +kernel
theorem d_TrustDeskModel_grouped_34 : decode kY_TrustDeskModel_grouped.2.1 34 = .ok (.iload_n 2, 1) := by decide +kernel
theorem d_TrustDeskModel_grouped_35 : decode kY_TrustDeskModel_grouped.2.1 35 = .ok (.iaload, 1) := by decide +kernel
theorem d_TrustDeskModel_grouped_36 : decode kY_TrustDeskModel_grouped.2.1 36 = .ok (.goto 4, 3) := by decide +kernel
def w_TrustDeskModel_grouped_x : List Nat := [1300, 1331, 1367, 1368, 1369, 20029, 20030, 20063, 20064, 20065]
set_option maxHeartbeats 100000000 in theorem tc_TrustDeskModel_grouped_x {g : mj_G} {l : Launch} {d : Nat} {T0 : tm_H} {M0 : mj_M} {n0 x9 : Nat} {o0 : Nat} {x1 : Int32} {x2 : Int32} (h_o0 : T0 o0 = some (0, 13, 0)) (yR : rI M0 o0) (yC : rC M0 o0 44) (I0 : tm_I tm_FT (tm_in w_TrustDeskModel_grouped_x) x9 T0 M0 n0 T0 M0 n0) : mj_Met g l kY_TrustDeskModel_grouped (d + 17) [.ref o0, .int x1, .int x2] M0 n0 0 0 (tm_Q tm_FT (tm_in w_TrustDeskModel_grouped_x) x9 T0 M0 n0 (fun r _ M => ∃ v : Int32, r = some (.int v) ∧ rI M o0)) := by
  refine mj_enter (by decide) (Nat.le_of_ble_eq_true rfl) ?_
  have K1 : rC M0 o0 44 := yC
  refine mv_aload_n d_TrustDeskModel_grouped_0 rfl rfl ?_
  refine mv_iconst (v := 0) d_TrustDeskModel_grouped_1 (by decide) ?_
  refine tr_putR (k := 0) I0 yR h_o0 rfl ⟨_, rfl⟩ (fun _ h => by cases h) rfl (fun lo hi h => by cases h) (Or.inl (by decide)) d_TrustDeskModel_grouped_2 p_TrustDeskModel_1_13 rfl rfl (fun M2 I3 q4 K5 R6 A7 V8 => ?_)
  have K9 : rC M2 o0 44 := K1.same (sA_f A7 (by decide)) (sF_f V8 (by decide))
  refine mv_aload_n d_TrustDeskModel_grouped_5 rfl rfl ?_
  refine mv_iload_n d_TrustDeskModel_grouped_6 rfl rfl ?_
  obtain ⟨_, b10, -⟩ := I3.1 _ _ h_o0
  refine mv_callV (kc1 := 0) (ks1 := 0) (kc' := 0) (ks' := 0) (As := [.int x2]) (st9 := [.int x2, .ref o0]) d_TrustDeskModel_grouped_7 lV_TrustDeskModel_418 b10 rfl (mj_enter (by decide) (Nat.le_of_ble_eq_true rfl) ?_) rfl (Nat.le_of_ble_eq_true rfl) (Nat.le_of_ble_eq_true rfl) (Nat.le_of_ble_eq_true rfl) (hst := rfl) (fun _ _ _ h => h)
  refine mv_iload_n d_TrustDeskModel_isFund_0 rfl rfl ?_
  have := mz_hi x2
  refine mv_if_ltZ (tgt := 16) (a := x2.toInt) d_TrustDeskModel_isFund_1 (by decide) rfl (fun b11 => ?_) (fun b11 => ?_)
  · refine mv_iconst (v := 0) d_TrustDeskModel_isFund_16 (by decide) ?_
    refine mv_iret d_TrustDeskModel_isFund_17 rfl (by decide) ?_
    refine mv_if_eq_t (tgt := 39) d_TrustDeskModel_grouped_10 (by decide) (by decide) ?_
    refine mv_iconst (v := (-1)) d_TrustDeskModel_grouped_39 (by decide) ?_
    exact mv_iret d_TrustDeskModel_grouped_40 rfl (by first | rfl | decide) ⟨_, I3, _, rfl, R6⟩
  · refine mv_iload_n d_TrustDeskModel_isFund_4 rfl rfl ?_
    refine mv_aload_n d_TrustDeskModel_isFund_5 rfl rfl ?_
    obtain ⟨v13, q12⟩ := tm_atI I3 h_o0 (k := 32) rfl
    refine tr_getK q12 d_TrustDeskModel_isFund_6 f_TrustDeskModel_415_13 ?_
    have := R6.f (k := 32) q12 rfl
    have := mz_hi x2
    have := mz_hi v13
    refine mv_icmp_geZ (tgt := 16) (a := x2.toInt) (b := v13.toInt) d_TrustDeskModel_isFund_9 (by decide) rfl rfl (fun b14 => ?_) (fun b14 => ?_)
    · refine mv_iconst (v := 0) d_TrustDeskModel_isFund_16 (by decide) ?_
      refine mv_iret d_TrustDeskModel_isFund_17 rfl (by decide) ?_
      refine mv_if_eq_t (tgt := 39) d_TrustDeskModel_grouped_10 (by decide) (by decide) ?_
      refine mv_iconst (v := (-1)) d_TrustDeskModel_grouped_39 (by decide) ?_
      exact mv_iret d_TrustDeskModel_grouped_40 rfl (by first | rfl | decide) ⟨_, I3, _, rfl, R6⟩
    · refine mv_iconst (v := 1) d_TrustDeskModel_isFund_12 (by decide) ?_
      refine mv_goto (tgt := 17) d_TrustDeskModel_isFund_13 (by decide) ?_
      refine mv_iret d_TrustDeskModel_isFund_17 rfl (by decide) ?_
      refine mv_if_eq_f (tgt := 39) d_TrustDeskModel_grouped_10 (by decide) (by decide) ?_
      refine mv_iload_n d_TrustDeskModel_grouped_13 rfl rfl ?_
      refine mv_iload_n d_TrustDeskModel_grouped_14 rfl rfl ?_
      refine mv_ishr d_TrustDeskModel_grouped_15 ?_
      refine mv_iconst (v := 1) d_TrustDeskModel_grouped_16 (by decide) ?_
      refine mv_iand d_TrustDeskModel_grouped_17 ?_
      refine mv_iconst (v := 1) d_TrustDeskModel_grouped_18 (by decide) ?_
      have := mz_hi ((x1 >>> (x2 &&& 31)) &&& 1)
      refine mv_icmp_neZ (tgt := 39) (a := ((x1 >>> (x2 &&& 31)) &&& 1).toInt) (b := 1) d_TrustDeskModel_grouped_19 (by decide) rfl (by decide) (fun b15 => ?_) (fun b15 => ?_)
      · refine mv_iconst (v := (-1)) d_TrustDeskModel_grouped_39 (by decide) ?_
        exact mv_iret d_TrustDeskModel_grouped_40 rfl (by first | rfl | decide) ⟨_, I3, _, rfl, R6⟩
      · refine mv_aload_n d_TrustDeskModel_grouped_22 rfl rfl ?_
        refine mv_iload_n d_TrustDeskModel_grouped_23 rfl rfl ?_
        obtain ⟨_, b22, -⟩ := I3.1 _ _ h_o0
        refine mv_callV (kc' := 0) (ks' := 0) (As := [.int x1]) (st9 := [.int x1, .ref o0]) d_TrustDeskModel_grouped_24 lV_TrustDeskModel_587 b22 rfl (tc_TrustDeskModel_groups_x (d := d) (x9 := x9) (o0 := o0) (x1 := x1) h_o0 R6 K9 I3.start) rfl (Nat.le_of_ble_eq_true rfl) (Nat.le_of_ble_eq_true rfl) (Nat.le_of_ble_eq_true rfl) (hst := rfl) (fun b16r M17 n18 b16 => ?_)
        obtain ⟨T19, J20, v23, rfl, b24, b25, R26⟩ := b16
        have I21 := I3.call J20 (tm_sub (by decide)) (Or.inl rfl)
        have t27 := J20.up h_o0
        have K28 : rC M17 o0 44 := K9.same (sA_c I3 J20 (I3.up h_o0) (by decide +kernel)) (sF_c I3 J20 (I3.up h_o0) (by decide +kernel))
        have q29 := J20.keep h_o0 (by decide) q4
        have q30 := J20.keep h_o0 (by decide) q12
        have := mz_hi v23
        refine mv_if_eqZ (tgt := 39) (a := v23.toInt) d_TrustDeskModel_grouped_27 (by decide) rfl (fun b31 => ?_) (fun b31 => ?_)
        · refine mv_iconst (v := (-1)) d_TrustDeskModel_grouped_39 (by decide) ?_
          exact mv_iret d_TrustDeskModel_grouped_40 rfl (by first | rfl | decide) ⟨_, I21, _, rfl, R26⟩
        · refine mv_aload_n d_TrustDeskModel_grouped_30 rfl rfl ?_
          obtain ⟨a33, q32, t_a33⟩ := tm_atR I21 t27 (k := 65) rfl
          refine tr_getK q32 d_TrustDeskModel_grouped_31 f_TrustDeskModel_155_13 ?_
          refine mv_iload_n d_TrustDeskModel_grouped_34 rfl rfl ?_
          refine tr_ialdR (o := o0) (k := 65) I21 q32 t_a33 (by decide) d_TrustDeskModel_grouped_35 (vp_in_iff.mpr (by omega)) (fun v34 e35 => ?_)
          refine mv_goto (tgt := 40) d_TrustDeskModel_grouped_36 (by decide) ?_
          exact mv_iret d_TrustDeskModel_grouped_40 rfl (by first | rfl | decide) ⟨_, I21, _, rfl, R26⟩
abbrev kY_TrustDeskModel_lay : mj_Y := (⟨"TrustDeskModel", "lay", "(II)Z"⟩, prog_14_method_99_code, 3, (Option.some Jvm.ClassFile.FieldType.boolean))
theorem d_TrustDeskModel_lay_0 : decode kY_TrustDeskModel_lay.2.1 0 = .ok (.aload_n 0, 1) := by decide +kernel
theorem d_TrustDeskModel_lay_1 : decode kY_TrustDeskModel_lay.2.1 1 = .ok (.iconst 0, 1) := by decide +kernel
theorem d_TrustDeskModel_lay_2 : decode kY_TrustDeskModel_lay.2.1 2 = .ok (.putfield 1, 3) := by decide +kernel
theorem d_TrustDeskModel_lay_5 : decode kY_TrustDeskModel_lay.2.1 5 = .ok (.aload_n 0, 1) := by decide +kernel
theorem d_TrustDeskModel_lay_6 : decode kY_TrustDeskModel_lay.2.1 6 = .ok (.iload_n 1, 1) := by decide +kernel
theorem d_TrustDeskModel_lay_7 : decode kY_TrustDeskModel_lay.2.1 7 = .ok (.invokevirtual 418, 3) := by decide +kernel
theorem d_TrustDeskModel_lay_10 : decode kY_TrustDeskModel_lay.2.1 10 = .ok (.ifCond .eq 15, 3) := by decide +kernel
theorem d_TrustDeskModel_lay_25 : decode kY_TrustDeskModel_lay.2.1 25 = .ok (.iconst 0, 1) := by decide +kernel
theorem d_TrustDeskModel_lay_26 : decode kY_TrustDeskModel_lay.2.1 26 = .ok (.ireturn, 1) := by decide +kernel
theorem d_TrustDeskModel_lay_13 : decode kY_TrustDeskModel_lay.2.1 13 = .ok (.iload_n 2, 1) := by decide +kernel
theorem d_TrustDeskModel_lay_14 : decode kY_TrustDeskModel_lay.2.1 14 = .ok (.i2l, 1) := by decide +kernel
theorem d_TrustDeskModel_lay_15 : decode kY_TrustDeskModel_lay.2.1 15 = .ok (.lconst 0, 1) := by decide +kernel
theorem d_TrustDeskModel_lay_16 : decode kY_TrustDeskModel_lay.2.1 16 = .ok (.ldc2_w 167, 3) := by decide +kernel
theorem d_TrustDeskModel_lay_19 : decode kY_TrustDeskModel_lay.2.1 19 = .ok (.invokestatic 169, 3) := by decide +kernel
theorem d_TrustDeskModel_lay_22 : decode kY_TrustDeskModel_lay.2.1 22 = .ok (.ifCond .ne 5, 3) := by decide +kernel
theorem d_TrustDeskModel_lay_27 : decode kY_TrustDeskModel_lay.2.1 27 = .ok (.aload_n 0, 1) := by decide +kernel
theorem d_TrustDeskModel_lay_28 : decode kY_TrustDeskModel_lay.2.1 28 = .ok (.getfield 158, 3) := by decide +kernel
theorem f_TrustDeskModel_158_13 : mj_fl "TrustDeskModel" 158 13 66 := ⟨kR_TrustDeskModel, kF_TrustDeskModel, 72, "TrustDeskModel", rfl, kg_13, by decide, (mj_in1 (List.mem_of_getElem? (i := 1452) (by decide +kernel)) rfl), Or.inl rfl⟩
theorem d_TrustDeskModel_lay_31 : decode kY_TrustDeskModel_lay.2.1 31 = .ok (.iload_n 1, 1) := by decide +kernel
theorem d_TrustDeskModel_lay_32 : decode kY_TrustDeskModel_lay.2.1 32 = .ok (.iload_n 2, 1) := by decide +kernel
theorem d_TrustDeskModel_lay_33 : decode kY_TrustDeskModel_lay.2.1 33 = .ok (.iastore, 1) := by decide +kernel
theorem d_TrustDeskModel_lay_34 : decode kY_TrustDeskModel_lay.2.1 34 = .ok (.iconst 1, 1) := by decide +kernel
theorem d_TrustDeskModel_lay_35 : decode kY_TrustDeskModel_lay.2.1 35 = .ok (.ireturn, 1) := by decide +kernel
abbrev kY_TrustDeskModel_judge : mj_Y := (⟨"TrustDeskModel", "judge", "(I)J"⟩, prog_14_method_100_code, 2, (Option.some Jvm.ClassFile.FieldType.long))
theorem d_TrustDeskModel_judge_0 : decode kY_TrustDeskModel_judge.2.1 0 = .ok (.aload_n 0, 1) := by decide +kernel
theorem d_TrustDeskModel_judge_1 : decode kY_TrustDeskModel_judge.2.1 1 = .ok (.iconst 0, 1) := by decide +kernel
theorem d_TrustDeskModel_judge_2 : decode kY_TrustDeskModel_judge.2.1 2 = .ok (.putfield 1, 3) := by decide +kernel
theorem d_TrustDeskModel_judge_5 : decode kY_TrustDeskModel_judge.2.1 5 = .ok (.aload_n 0, 1) := by decide +kernel
theorem d_TrustDeskModel_judge_6 : decode kY_TrustDeskModel_judge.2.1 6 = .ok (.iload_n 1, 1) := by decide +kernel
theorem d_TrustDeskModel_judge_7 : decode kY_TrustDeskModel_judge.2.1 7 = .ok (.invokevirtual 581, 3) := by decide +kernel
theorem d_TrustDeskModel_judge_10 : decode kY_TrustDeskModel_judge.2.1 10 = .ok (.ifCond .ne 7, 3) := by decide +kernel
theorem d_TrustDeskModel_judge_17 : decode kY_TrustDeskModel_judge.2.1 17 = .ok (.aload_n 0, 1) := by decide +kernel
theorem d_TrustDeskModel_judge_18 : decode kY_TrustDeskModel_judge.2.1 18 = .ok (.iload_n 1, 1) := by decide +kernel
theorem d_TrustDeskModel_judge_19 : decode kY_TrustDeskModel_judge.2.1 19 = .ok (.invokevirtual 584, 3) := by decide +kernel
theorem d_TrustDeskModel_judge_22 : decode kY_TrustDeskModel_judge.2.1 22 = .ok (.aload_n 0, 1) := by decide +kernel
theorem d_TrustDeskModel_judge_23 : decode kY_TrustDeskModel_judge.2.1 23 = .ok (.aload_n 0, 1) := by decide +kernel
theorem d_TrustDeskModel_judge_24 : decode kY_TrustDeskModel_judge.2.1 24 = .ok (.getfield 158, 3) := by decide +kernel
theorem d_TrustDeskModel_judge_27 : decode kY_TrustDeskModel_judge.2.1 27 = .ok (.invokevirtual 567, 3) := by decide +kernel
def w_TrustDeskModel_idle_q66_x : List Nat := []
set_option maxHeartbeats 100000000 in theorem tc_TrustDeskModel_idle_q66_x {g : mj_G} {l : Launch} {d : Nat} {T0 : tm_H} {M0 : mj_M} {n0 x9 : Nat} {o0 : Nat} {o1 : Nat} (h_o0 : T0 o0 = some (0, 13, 0)) (h_o1 : T0 o1 = some (1, 160528, 12)) (yR : rI M0 o0) (y8 : ∀ i : Nat, i < 880 → 0 ≤ ra M0 o0 8 i) (I0 : tm_I tm_FT (tm_in w_TrustDeskModel_idle_q66_x) x9 T0 M0 n0 T0 M0 n0) : mj_Met g l kY_TrustDeskModel_idle (d + 2) [.ref o0, .ref o1] M0 n0 0 0 (tm_Q tm_FT (tm_in w_TrustDeskModel_idle_q66_x) x9 T0 M0 n0 (fun r _ M => ∃ v : Int64, r = some (.long v) ∧ rI M o0)) := by
  refine mj_enter (by decide) (Nat.le_of_ble_eq_true rfl) ?_
  have K1 : ∀ i : Nat, i < 880 → 0 ≤ ra M0 o0 8 i := y8
  refine mv_lconst (v := 0) d_TrustDeskModel_idle_0 (by decide) ?_
  refine mv_lstore_n (lv' := [(2, .long 0), (0, .ref o0), (1, .ref o1)]) d_TrustDeskModel_idle_1 rfl (by decide) rfl ?_
  refine mv_iconst (v := 0) d_TrustDeskModel_idle_2 (by decide) ?_
  refine mv_istore (lv' := [(4, .int 0), (2, .long 0), (0, .ref o0), (1, .ref o1)]) d_TrustDeskModel_idle_3 (by decide) rfl ?_
  have L5_2 : ∀ (k : Nat) (i4_2 : Int32) (l2_2 : Int64) (T_2 : tm_H) (M_2 : mj_M) (n_2 : Nat), tm_I tm_FT (tm_in w_TrustDeskModel_idle_q66_x) x9 T0 M0 n0 T_2 M_2 n_2 → T_2 o0 = some (0, 13, 0) → T_2 o1 = some (1, 160528, 12) → 0 ≤ i4_2.toInt → (rI M_2 o0) → (∀ i : Nat, i < 880 → 0 ≤ ra M_2 o0 8 i) → 2147483647 - i4_2.toInt < (k : Int) → mj_V g l kY_TrustDeskModel_idle (d + 2) 5 [(4, .int i4_2), (2, .long l2_2), (0, .ref o0), (1, .ref o1)] [] M_2 n_2 0 0 (tm_Q tm_FT (tm_in w_TrustDeskModel_idle_q66_x) x9 T0 M0 n0 (fun r _ M => ∃ v : Int64, r = some (.long v) ∧ rI M o0)) := by
    intro k2
    induction k2 with
    | zero =>
      intro i4_2 l2_2 T_2 M_2 n_2 I_2 h_q0_2 h_q1_2 iv0_2 kKR_2 kK8_2 hk2
      have := mz_hi i4_2
      have := kKR_2.1 15 _ _ rfl
      have := kKR_2.1 16 _ _ rfl
      have := kKR_2.1 19 _ _ rfl
      omega
    | succ k2 ih2 =>
      intro i4_2 l2_2 T_2 M_2 n_2 I_2 h_q0_2 h_q1_2 iv0_2 kKR_2 kK8_2 hk2
      refine mv_iload d_TrustDeskModel_idle_5 rfl ?_
      refine mv_bipush (v := 8) d_TrustDeskModel_idle_7 (by decide) ?_
      have := mz_hi i4_2
      refine mv_icmp_geZ (tgt := 134) (a := i4_2.toInt) (b := 8) d_TrustDeskModel_idle_9 (by decide) rfl (by decide) (fun b3 => ?_) (fun b3 => ?_)
      · refine mv_lload_n d_TrustDeskModel_idle_134 rfl rfl ?_
        exact mv_lret d_TrustDeskModel_idle_135 rfl ⟨_, I_2, _, rfl, kKR_2⟩
      · refine mv_lconst (v := 0) d_TrustDeskModel_idle_12 (by decide) ?_
        refine mv_lstore (lv' := [(5, .long 0), (4, .int i4_2), (2, .long l2_2), (0, .ref o0), (1, .ref o1)]) d_TrustDeskModel_idle_13 (by decide) rfl ?_
        refine mv_iconst (v := 0) d_TrustDeskModel_idle_15 (by decide) ?_
        refine mv_istore (lv' := [(7, .int 0), (5, .long 0), (4, .int i4_2), (2, .long l2_2), (0, .ref o0), (1, .ref o1)]) d_TrustDeskModel_idle_16 (by decide) rfl ?_
        refine mv_sipush (v := 255) d_TrustDeskModel_idle_18 (by decide) ?_
        refine mv_istore (lv' := [(8, .int 255), (7, .int 0), (5, .long 0), (4, .int i4_2), (2, .long l2_2), (0, .ref o0), (1, .ref o1)]) d_TrustDeskModel_idle_21 (by decide) rfl ?_
        refine mv_iconst (v := 0) d_TrustDeskModel_idle_23 (by decide) ?_
        refine mv_istore (lv' := [(9, .int 0), (8, .int 255), (7, .int 0), (5, .long 0), (4, .int i4_2), (2, .long l2_2), (0, .ref o0), (1, .ref o1)]) d_TrustDeskModel_idle_24 (by decide) rfl ?_
        have L26_4 : ∀ (k : Nat) (i9_4 : Int32) (i8_4 : Int32) (i7_4 : Int32) (l5_4 : Int64) (T_4 : tm_H) (M_4 : mj_M) (n_4 : Nat), tm_I tm_FT (tm_in w_TrustDeskModel_idle_q66_x) x9 T0 M0 n0 T_4 M_4 n_4 → T_4 o0 = some (0, 13, 0) → T_4 o1 = some (1, 160528, 12) → 0 ≤ i9_4.toInt → (rI M_4 o0) → (∀ i : Nat, i < 880 → 0 ≤ ra M_4 o0 8 i) → 2147483647 - i9_4.toInt < (k : Int) → mj_V g l kY_TrustDeskModel_idle (d + 2) 26 [(9, .int i9_4), (8, .int i8_4), (7, .int i7_4), (5, .long l5_4), (4, .int i4_2), (2, .long l2_2), (0, .ref o0), (1, .ref o1)] [] M_4 n_4 0 0 (tm_Q tm_FT (tm_in w_TrustDeskModel_idle_q66_x) x9 T0 M0 n0 (fun r _ M => ∃ v : Int64, r = some (.long v) ∧ rI M o0)) := by
          intro k4
          induction k4 with
          | zero =>
            intro i9_4 i8_4 i7_4 l5_4 T_4 M_4 n_4 I_4 h_q0_4 h_q1_4 iv0_4 kKR_4 kK8_4 hk4
            have := mz_hi i9_4
            have := kKR_4.1 15 _ _ rfl
            have := kKR_4.1 16 _ _ rfl
            have := kKR_4.1 19 _ _ rfl
            omega
          | succ k4 ih4 =>
            intro i9_4 i8_4 i7_4 l5_4 T_4 M_4 n_4 I_4 h_q0_4 h_q1_4 iv0_4 kKR_4 kK8_4 hk4
            refine mv_iload d_TrustDeskModel_idle_26 rfl ?_
            refine mv_aload_n d_TrustDeskModel_idle_28 rfl rfl ?_
            obtain ⟨v6, q5⟩ := tm_atI I_4 h_q0_4 (k := 32) rfl
            refine tr_getK q5 d_TrustDeskModel_idle_29 f_TrustDeskModel_415_13 ?_
            have := kKR_4.f (k := 32) q5 rfl
            have := mz_hi i9_4
            have := mz_hi v6
            refine mv_icmp_geZ (tgt := 92) (a := i9_4.toInt) (b := v6.toInt) d_TrustDeskModel_idle_32 (by decide) rfl rfl (fun b7 => ?_) (fun b7 => ?_)
            · refine mv_iload d_TrustDeskModel_idle_92 rfl ?_
              refine mv_iconst (v := 1) d_TrustDeskModel_idle_94 (by decide) ?_
              have := mz_hi i7_4
              refine mv_icmp_leZ (tgt := 119) (a := i7_4.toInt) (b := 1) d_TrustDeskModel_idle_95 (by decide) rfl (by decide) (fun b8 => ?_) (fun b8 => ?_)
              · refine mv_lload_n d_TrustDeskModel_idle_119 rfl rfl ?_
                refine mv_lconst (v := 0) d_TrustDeskModel_idle_120 (by decide) ?_
                refine mv_lload d_TrustDeskModel_idle_121 rfl ?_
                have : (0 : Int64).toInt = 0 := by decide
                obtain ⟨v9, b10, _, _, _⟩ := mz_max9L (0 : Int64) l5_4
                refine mv_mmax_long (v := v9) d_TrustDeskModel_idle_123 (mj_in1 (List.mem_of_getElem? (i := 2035) (by decide +kernel)) rfl) (Nat.le_of_ble_eq_true rfl) b10 ?_
                refine mv_ladd d_TrustDeskModel_idle_126 ?_
                refine mv_lstore_n (lv' := [(2, .long (l2_2 + v9)), (9, .int i9_4), (8, .int i8_4), (7, .int i7_4), (5, .long l5_4), (4, .int i4_2), (0, .ref o0), (1, .ref o1)]) d_TrustDeskModel_idle_127 rfl (by decide) rfl ?_
                refine mv_iinc (v := (i4_2 + 1)) (lv' := [(4, .int (i4_2 + 1)), (2, .long (l2_2 + v9)), (9, .int i9_4), (8, .int i8_4), (7, .int i7_4), (5, .long l5_4), (0, .ref o0), (1, .ref o1)]) d_TrustDeskModel_idle_128 rfl rfl (by decide) rfl ?_
                refine mv_goto (tgt := 5) d_TrustDeskModel_idle_131 (by decide) ?_
                refine mv_locals (lv' := [(4, .int (i4_2 + 1)), (2, .long (l2_2 + v9)), (0, .ref o0), (1, .ref o1)]) (by intro q hq; simp only [List.mem_cons, List.not_mem_nil, or_false] at hq; rcases hq with rfl | rfl | rfl | rfl <;> rfl) ?_
                have b11 : (i4_2 + 1).toInt = i4_2.toInt + 1 := mz_addn 1 1 (by decide) (by have := mz_lo i4_2; omega) (by have := mz_hi i4_2; omega)
                exact (ih2 (i4_2 + 1) (l2_2 + v9) T_4 M_4 n_4 I_4 h_q0_4 h_q1_4 (by first | omega | decide | exact fun h9 => absurd (by decide) h9) kKR_4 kK8_4 (by omega))
              · refine mv_iload d_TrustDeskModel_idle_98 rfl ?_
                refine mv_callS (kc' := 0) (ks' := 0) (As := [.int i8_4]) (st9 := [.int i8_4]) d_TrustDeskModel_idle_100 lS_TrustDeskModel_444 (tc_TrustDeskModel_size (d := (d + 1)) (x9 := x9) (x1 := i8_4)  I_4.start) rfl (Nat.le_of_ble_eq_true rfl) (Nat.le_of_ble_eq_true rfl) (Nat.le_of_ble_eq_true rfl) (hst := rfl) (fun b12r M13 n14 b12 => ?_)
                obtain ⟨T15, J16, v18, rfl⟩ := b12
                have I17 := I_4.call J16 (tm_sub (by decide)) (Or.inl rfl)
                have t19 := J16.up h_q0_4
                have t20 := J16.up h_q1_4
                have R21 := rI_call I_4 J16 (I_4.up h_o0) (fun _ _ => rfl) (fun _ _ => rfl) kKR_4
                have K22 : ∀ i : Nat, i < 880 → 0 ≤ ra M13 o0 8 i := (by have e9 := ((sA_c I_4 J16 (I_4.up h_o0) (by decide +kernel)) : sA [8] _ _ _) 8 rfl; rw [e9]; exact kK8_4)
                have q23 := J16.keep h_q0_4 (by decide) q5
                refine mv_aload_n d_TrustDeskModel_idle_103 rfl rfl ?_
                refine mv_aload_n d_TrustDeskModel_idle_104 rfl rfl ?_
                obtain ⟨v25, q24⟩ := tm_atI I17 t19 (k := 1) rfl
                refine tr_getK q24 d_TrustDeskModel_idle_105 f_TrustDeskModel_164_13 ?_
                have := R21.f (k := 1) q24 rfl
                refine mv_iconst (v := 1) d_TrustDeskModel_idle_108 (by decide) ?_
                obtain ⟨_, b32, -⟩ := I17.1 _ _ t19
                have : (1 : Int32).toInt = 1 := by decide
                refine mv_callV (kc' := 0) (ks' := 0) (As := [.int v25, .int 1]) (st9 := [.int 1, .int v25, .ref o0, .int v18]) d_TrustDeskModel_idle_109 lV_TrustDeskModel_396 b32 rfl (tc_TrustDeskModel_toldOn_x (d := d) (x9 := x9) (o0 := o0) (x1 := v25) (x2 := 1) t19 R21 K22 I17.start) rfl (Nat.le_of_ble_eq_true rfl) (Nat.le_of_ble_eq_true rfl) (Nat.le_of_ble_eq_true rfl) (hst := rfl) (fun b26r M27 n28 b26 => ?_)
                obtain ⟨T29, J30, v33, rfl, R34, f35⟩ := b26
                have I31 := I17.call J30 (tm_sub (by decide)) (Or.inl rfl)
                have t36 := J30.up t19
                have t37 := J30.up t20
                have K38 : ∀ i : Nat, i < 880 → 0 ≤ ra M27 o0 8 i := (by have e9 := ((sA_c I17 J30 (I17.up h_o0) (by decide +kernel)) : sA [8] _ _ _) 8 rfl; rw [e9]; exact K22)
                have q39 := J30.keep t19 (by decide) q23
                have q40 := J30.keep t19 (by decide) q24
                have := mz_hi v18
                have := mz_hi v33
                refine mv_icmp_geZ (tgt := 119) (a := v18.toInt) (b := v33.toInt) d_TrustDeskModel_idle_112 (by decide) rfl rfl (fun b41 => ?_) (fun b41 => ?_)
                · refine mv_lload_n d_TrustDeskModel_idle_119 rfl rfl ?_
                  refine mv_lconst (v := 0) d_TrustDeskModel_idle_120 (by decide) ?_
                  refine mv_lload d_TrustDeskModel_idle_121 rfl ?_
                  have : (0 : Int64).toInt = 0 := by decide
                  obtain ⟨v42, b43, _, _, _⟩ := mz_max9L (0 : Int64) l5_4
                  refine mv_mmax_long (v := v42) d_TrustDeskModel_idle_123 (mj_in1 (List.mem_of_getElem? (i := 2035) (by decide +kernel)) rfl) (Nat.le_of_ble_eq_true rfl) b43 ?_
                  refine mv_ladd d_TrustDeskModel_idle_126 ?_
                  refine mv_lstore_n (lv' := [(2, .long (l2_2 + v42)), (9, .int i9_4), (8, .int i8_4), (7, .int i7_4), (5, .long l5_4), (4, .int i4_2), (0, .ref o0), (1, .ref o1)]) d_TrustDeskModel_idle_127 rfl (by decide) rfl ?_
                  refine mv_iinc (v := (i4_2 + 1)) (lv' := [(4, .int (i4_2 + 1)), (2, .long (l2_2 + v42)), (9, .int i9_4), (8, .int i8_4), (7, .int i7_4), (5, .long l5_4), (0, .ref o0), (1, .ref o1)]) d_TrustDeskModel_idle_128 rfl rfl (by decide) rfl ?_
                  refine mv_goto (tgt := 5) d_TrustDeskModel_idle_131 (by decide) ?_
                  refine mv_locals (lv' := [(4, .int (i4_2 + 1)), (2, .long (l2_2 + v42)), (0, .ref o0), (1, .ref o1)]) (by intro q hq; simp only [List.mem_cons, List.not_mem_nil, or_false] at hq; rcases hq with rfl | rfl | rfl | rfl <;> rfl) ?_
                  have b44 : (i4_2 + 1).toInt = i4_2.toInt + 1 := mz_addn 1 1 (by decide) (by have := mz_lo i4_2; omega) (by have := mz_hi i4_2; omega)
                  exact (ih2 (i4_2 + 1) (l2_2 + v42) T29 M27 n28 I31 t36 t37 (by first | omega | decide | exact fun h9 => absurd (by decide) h9) R34 K38 (by omega))
                · refine mv_ldc2 d_TrustDeskModel_idle_115 k_TrustDeskModel_563 ?_
                  exact mv_lret d_TrustDeskModel_idle_118 rfl ⟨_, I31, _, rfl, R34⟩
            · refine mv_aload_n d_TrustDeskModel_idle_35 rfl rfl ?_
              obtain ⟨v46, q45⟩ := tm_atI I_4 h_q0_4 (k := 67) rfl
              refine tr_getK q45 d_TrustDeskModel_idle_36 f_TrustDeskModel_560_13 ?_
              refine mv_iload d_TrustDeskModel_idle_39 rfl ?_
              refine mv_ishr d_TrustDeskModel_idle_41 ?_
              refine mv_iconst (v := 1) d_TrustDeskModel_idle_42 (by decide) ?_
              refine mv_iand d_TrustDeskModel_idle_43 ?_
              have := mz_hi ((v46 >>> (i9_4 &&& 31)) &&& 1)
              refine mv_if_eqZ (tgt := 86) (a := ((v46 >>> (i9_4 &&& 31)) &&& 1).toInt) d_TrustDeskModel_idle_44 (by decide) rfl (fun b47 => ?_) (fun b47 => ?_)
              · refine mv_iinc (v := (i9_4 + 1)) (lv' := [(9, .int (i9_4 + 1)), (8, .int i8_4), (7, .int i7_4), (5, .long l5_4), (4, .int i4_2), (2, .long l2_2), (0, .ref o0), (1, .ref o1)]) d_TrustDeskModel_idle_86 rfl rfl (by decide) rfl ?_
                refine mv_goto (tgt := 26) d_TrustDeskModel_idle_89 (by decide) ?_
                have b48 : (i9_4 + 1).toInt = i9_4.toInt + 1 := mz_addn 1 1 (by decide) (by have := mz_lo i9_4; omega) (by have := mz_hi i9_4; omega)
                exact (ih4 (i9_4 + 1) i8_4 i7_4 l5_4 T_4 M_4 n_4 I_4 h_q0_4 h_q1_4 (by first | omega | decide | exact fun h9 => absurd (by decide) h9) kKR_4 kK8_4 (by omega))
              · refine mv_aload_n d_TrustDeskModel_idle_47 rfl rfl ?_
                refine mv_iload d_TrustDeskModel_idle_48 rfl ?_
                refine tr_iald I_4 h_q1_4 (by decide) d_TrustDeskModel_idle_50 (vp_in_iff.mpr (by omega)) (fun v49 => ?_)
                refine mv_iload d_TrustDeskModel_idle_51 rfl ?_
                have := mz_hi v49
                have := mz_hi i4_2
                refine mv_icmp_eqZ (tgt := 59) (a := v49.toInt) (b := i4_2.toInt) d_TrustDeskModel_idle_53 (by decide) rfl rfl (fun b50 => ?_) (fun b50 => ?_)
                · refine mv_lload d_TrustDeskModel_idle_59 rfl ?_
                  refine mv_aload_n d_TrustDeskModel_idle_61 rfl rfl ?_
                  obtain ⟨a52, q51, t_a52⟩ := tm_atR I_4 h_q0_4 (k := 63) rfl
                  refine tr_getK q51 d_TrustDeskModel_idle_62 f_TrustDeskModel_149_13 ?_
                  refine mv_iload d_TrustDeskModel_idle_65 rfl ?_
                  refine tr_laldR (o := o0) (k := 63) I_4 q51 t_a52 (by decide) d_TrustDeskModel_idle_67 (vp_in_iff.mpr (by omega)) (fun v53 e54 => ?_)
                  refine mv_ladd d_TrustDeskModel_idle_68 ?_
                  refine mv_lstore (lv' := [(5, .long (l5_4 + v53)), (9, .int i9_4), (8, .int i8_4), (7, .int i7_4), (4, .int i4_2), (2, .long l2_2), (0, .ref o0), (1, .ref o1)]) d_TrustDeskModel_idle_69 (by decide) rfl ?_
                  refine mv_iload d_TrustDeskModel_idle_71 rfl ?_
                  refine mv_aload_n d_TrustDeskModel_idle_73 rfl rfl ?_
                  obtain ⟨a56, q55, t_a56⟩ := tm_atR I_4 h_q0_4 (k := 36) rfl
                  refine tr_getK q55 d_TrustDeskModel_idle_74 f_TrustDeskModel_76_13 ?_
                  refine mv_iload d_TrustDeskModel_idle_77 rfl ?_
                  refine tr_ialdR (o := o0) (k := 36) I_4 q55 t_a56 (by decide) d_TrustDeskModel_idle_79 (vp_in_iff.mpr (by omega)) (fun v57 e58 => ?_)
                  refine mv_iand d_TrustDeskModel_idle_80 ?_
                  refine mv_istore (lv' := [(8, .int (i8_4 &&& v57)), (5, .long (l5_4 + v53)), (9, .int i9_4), (7, .int i7_4), (4, .int i4_2), (2, .long l2_2), (0, .ref o0), (1, .ref o1)]) d_TrustDeskModel_idle_81 (by decide) rfl ?_
                  refine mv_iinc (v := (i7_4 + 1)) (lv' := [(7, .int (i7_4 + 1)), (8, .int (i8_4 &&& v57)), (5, .long (l5_4 + v53)), (9, .int i9_4), (4, .int i4_2), (2, .long l2_2), (0, .ref o0), (1, .ref o1)]) d_TrustDeskModel_idle_83 rfl rfl (by decide) rfl ?_
                  refine mv_iinc (v := (i9_4 + 1)) (lv' := [(9, .int (i9_4 + 1)), (7, .int (i7_4 + 1)), (8, .int (i8_4 &&& v57)), (5, .long (l5_4 + v53)), (4, .int i4_2), (2, .long l2_2), (0, .ref o0), (1, .ref o1)]) d_TrustDeskModel_idle_86 rfl rfl (by decide) rfl ?_
                  refine mv_goto (tgt := 26) d_TrustDeskModel_idle_89 (by decide) ?_
                  refine mv_locals (lv' := [(9, .int (i9_4 + 1)), (8, .int (i8_4 &&& v57)), (7, .int (i7_4 + 1)), (5, .long (l5_4 + v53)), (4, .int i4_2), (2, .long l2_2), (0, .ref o0), (1, .ref o1)]) (by intro q hq; simp only [List.mem_cons, List.not_mem_nil, or_false] at hq; rcases hq with rfl | rfl | rfl | rfl | rfl | rfl | rfl | rfl <;> rfl) ?_
                  have b59 : (i9_4 + 1).toInt = i9_4.toInt + 1 := mz_addn 1 1 (by decide) (by have := mz_lo i9_4; omega) (by have := mz_hi i9_4; omega)
                  exact (ih4 (i9_4 + 1) (i8_4 &&& v57) (i7_4 + 1) (l5_4 + v53) T_4 M_4 n_4 I_4 h_q0_4 h_q1_4 (by first | omega | decide | exact fun h9 => absurd (by decide) h9) kKR_4 kK8_4 (by omega))
                · refine mv_goto (tgt := 86) d_TrustDeskModel_idle_56 (by decide) ?_
                  refine mv_iinc (v := (i9_4 + 1)) (lv' := [(9, .int (i9_4 + 1)), (8, .int i8_4), (7, .int i7_4), (5, .long l5_4), (4, .int i4_2), (2, .long l2_2), (0, .ref o0), (1, .ref o1)]) d_TrustDeskModel_idle_86 rfl rfl (by decide) rfl ?_
                  refine mv_goto (tgt := 26) d_TrustDeskModel_idle_89 (by decide) ?_
                  have b60 : (i9_4 + 1).toInt = i9_4.toInt + 1 := mz_addn 1 1 (by decide) (by have := mz_lo i9_4; omega) (by have := mz_hi i9_4; omega)
                  exact (ih4 (i9_4 + 1) i8_4 i7_4 l5_4 T_4 M_4 n_4 I_4 h_q0_4 h_q1_4 (by first | omega | decide | exact fun h9 => absurd (by decide) h9) kKR_4 kK8_4 (by omega))
        have : (0 : Int32).toInt = 0 := by decide
        have : (255 : Int32).toInt = 255 := by decide
        exact mv_less (Nat.zero_le _) (Nat.zero_le _) (L26_4 4294967296 0 255 0 0 T_2 M_2 n_2 I_2 h_q0_2 h_q1_2 (by first | omega | decide | exact fun h9 => absurd (by decide) h9) kKR_2 kK8_2 (by show (2147483647 - (0 : Int) : Int) < _; decide))
  have : (0 : Int32).toInt = 0 := by decide
  exact mv_less (Nat.zero_le _) (Nat.zero_le _) (L5_2 4294967296 0 0 T0 M0 n0 I0 h_o0 h_o1 (by first | omega | decide | exact fun h9 => absurd (by decide) h9) yR K1 (by show (2147483647 - (0 : Int) : Int) < _; decide))
theorem d_TrustDeskModel_judge_30 : decode kY_TrustDeskModel_judge.2.1 30 = .ok (.lreturn, 1) := by decide +kernel
theorem d_TrustDeskModel_judge_13 : decode kY_TrustDeskModel_judge.2.1 13 = .ok (.ldc2_w 590, 3) := by decide +kernel
theorem d_TrustDeskModel_judge_16 : decode kY_TrustDeskModel_judge.2.1 16 = .ok (.lreturn, 1) := by decide +kernel
def w_TrustDeskModel_judge_x : List Nat := [1300, 1331, 1367, 20029, 20030, 20063]
set_option maxHeartbeats 100000000 in theorem tc_TrustDeskModel_judge_x {g : mj_G} {l : Launch} {d : Nat} {T0 : tm_H} {M0 : mj_M} {n0 x9 : Nat} {o0 : Nat} {x1 : Int32} (h_o0 : T0 o0 = some (0, 13, 0)) (yR : rI M0 o0) (yC : rC M0 o0 44) (I0 : tm_I tm_FT (tm_in w_TrustDeskModel_judge_x) x9 T0 M0 n0 T0 M0 n0) : mj_Met g l kY_TrustDeskModel_judge (d + 5) [.ref o0, .int x1] M0 n0 0 0 (tm_Q tm_FT (tm_in w_TrustDeskModel_judge_x) x9 T0 M0 n0 (fun r _ M => ∃ v : Int64, r = some (.long v) ∧ rI M o0)) := by
  refine mj_enter (by decide) (Nat.le_of_ble_eq_true rfl) ?_
  have K1 : rC M0 o0 44 := yC
  refine mv_aload_n d_TrustDeskModel_judge_0 rfl rfl ?_
  refine mv_iconst (v := 0) d_TrustDeskModel_judge_1 (by decide) ?_
  refine tr_putR (k := 0) I0 yR h_o0 rfl ⟨_, rfl⟩ (fun _ h => by cases h) rfl (fun lo hi h => by cases h) (Or.inl (by decide)) d_TrustDeskModel_judge_2 p_TrustDeskModel_1_13 rfl rfl (fun M2 I3 q4 K5 R6 A7 V8 => ?_)
  have K9 : rC M2 o0 44 := K1.same (sA_f A7 (by decide)) (sF_f V8 (by decide))
  refine mv_aload_n d_TrustDeskModel_judge_5 rfl rfl ?_
  refine mv_iload_n d_TrustDeskModel_judge_6 rfl rfl ?_
  obtain ⟨_, b16, -⟩ := I3.1 _ _ h_o0
  refine mv_callV (kc' := 0) (ks' := 0) (As := [.int x1]) (st9 := [.int x1, .ref o0]) d_TrustDeskModel_judge_7 lV_TrustDeskModel_581 b16 rfl (tc_TrustDeskModel_areAsked_x (d := (d + 2)) (x9 := x9) (o0 := o0) (x1 := x1) h_o0 R6 I3.start) rfl (Nat.le_of_ble_eq_true rfl) (Nat.le_of_ble_eq_true rfl) (Nat.le_of_ble_eq_true rfl) (hst := rfl) (fun b10r M11 n12 b10 => ?_)
  obtain ⟨T13, J14, v17, rfl, b18, b19, R20⟩ := b10
  have I15 := I3.call J14 (tm_sub (by decide)) (Or.inl rfl)
  have t21 := J14.up h_o0
  have K22 : rC M11 o0 44 := K9.same (sA_c I3 J14 (I3.up h_o0) (by decide +kernel)) (sF_c I3 J14 (I3.up h_o0) (by decide +kernel))
  have q23 := J14.keep h_o0 (by decide) q4
  have := mz_hi v17
  refine mv_if_neZ (tgt := 17) (a := v17.toInt) d_TrustDeskModel_judge_10 (by decide) rfl (fun b24 => ?_) (fun b24 => ?_)
  · refine mv_aload_n d_TrustDeskModel_judge_17 rfl rfl ?_
    refine mv_iload_n d_TrustDeskModel_judge_18 rfl rfl ?_
    obtain ⟨_, b31, -⟩ := I15.1 _ _ t21
    refine mv_callV (kc' := 0) (ks' := 0) (As := [.int x1]) (st9 := [.int x1, .ref o0]) d_TrustDeskModel_judge_19 lV_TrustDeskModel_584 b31 rfl (tc_TrustDeskModel_findOver_x (d := d) (x9 := x9) (o0 := o0) (x1 := x1) t21 R20 K22 I15.start) rfl (Nat.le_of_ble_eq_true rfl) (Nat.le_of_ble_eq_true rfl) (Nat.le_of_ble_eq_true rfl) (hst := rfl) (fun b25r M26 n27 b25 => ?_)
    obtain ⟨T28, J29, rfl, R32⟩ := b25
    have I30 := I15.call J29 (tm_sub (by decide)) (Or.inl rfl)
    have t33 := J29.up t21
    have K34 : rC M26 o0 44 := K22.same (sA_c I15 J29 (I15.up h_o0) (by decide +kernel)) (sF_c I15 J29 (I15.up h_o0) (by decide +kernel))
    have q35 := J29.keep t21 (by decide) q23
    refine mv_aload_n d_TrustDeskModel_judge_22 rfl rfl ?_
    refine mv_aload_n d_TrustDeskModel_judge_23 rfl rfl ?_
    obtain ⟨a37, q36, t_a37⟩ := tm_atR I30 t33 (k := 66) rfl
    refine tr_getK q36 d_TrustDeskModel_judge_24 f_TrustDeskModel_158_13 ?_
    obtain ⟨_, b44, -⟩ := I30.1 _ _ t33
    refine mv_callV (kc' := 0) (ks' := 0) (As := [.ref a37]) (st9 := [.ref a37, .ref o0]) d_TrustDeskModel_judge_27 lV_TrustDeskModel_567 b44 rfl (tc_TrustDeskModel_idle_q66_x (d := (d + 2)) (x9 := x9) (o0 := o0) (o1 := a37) t33 t_a37 R32 K34.2.2.1 I30.start) rfl (Nat.le_of_ble_eq_true rfl) (Nat.le_of_ble_eq_true rfl) (Nat.le_of_ble_eq_true rfl) (hst := rfl) (fun b38r M39 n40 b38 => ?_)
    obtain ⟨T41, J42, v45, rfl, R46⟩ := b38
    have I43 := I30.call J42 (tm_sub (by decide)) (Or.inl rfl)
    have t47 := J42.up t33
    have K48 : rC M39 o0 44 := K34.same (sA_c I30 J42 (I30.up h_o0) (by decide +kernel)) (sF_c I30 J42 (I30.up h_o0) (by decide +kernel))
    have q49 := J42.keep t33 (by decide) q35
    have q50 := J42.keep t33 (by decide) q36
    have t51 := J42.up t_a37
    exact mv_lret d_TrustDeskModel_judge_30 rfl ⟨_, I43, _, rfl, R46⟩
  · refine mv_ldc2 d_TrustDeskModel_judge_13 k_TrustDeskModel_590 ?_
    exact mv_lret d_TrustDeskModel_judge_16 rfl ⟨_, I15, _, rfl, R20⟩
