abbrev kY_TrustDeskModel_fund : mj_Y := (⟨"TrustDeskModel", "fund", "(II)I"⟩, prog_14_method_55_code, 8, (Option.some Jvm.ClassFile.FieldType.int))
theorem d_TrustDeskModel_fund_0 : decode kY_TrustDeskModel_fund.2.1 0 = .ok (.aload_n 0, 1) := by decide +kernel
theorem d_TrustDeskModel_fund_1 : decode kY_TrustDeskModel_fund.2.1 1 = .ok (.iconst 0, 1) := by decide +kernel
theorem d_TrustDeskModel_fund_2 : decode kY_TrustDeskModel_fund.2.1 2 = .ok (.putfield 1, 3) := by decide +kernel
theorem d_TrustDeskModel_fund_5 : decode kY_TrustDeskModel_fund.2.1 5 = .ok (.iload_n 1, 1) := by decide +kernel
theorem d_TrustDeskModel_fund_6 : decode kY_TrustDeskModel_fund.2.1 6 = .ok (.i2l, 1) := by decide +kernel
theorem d_TrustDeskModel_fund_7 : decode kY_TrustDeskModel_fund.2.1 7 = .ok (.lconst 0, 1) := by decide +kernel
theorem d_TrustDeskModel_fund_8 : decode kY_TrustDeskModel_fund.2.1 8 = .ok (.ldc2_w 421, 3) := by decide +kernel
theorem k_TrustDeskModel_421 : Cond.constantLong "TrustDeskModel" 421 999 ∈ mj_T := (mj_in1 (List.mem_of_getElem? (i := 1793) (by decide +kernel)) rfl)
theorem d_TrustDeskModel_fund_11 : decode kY_TrustDeskModel_fund.2.1 11 = .ok (.invokestatic 169, 3) := by decide +kernel
theorem d_TrustDeskModel_fund_14 : decode kY_TrustDeskModel_fund.2.1 14 = .ok (.ifCond .eq 24, 3) := by decide +kernel
theorem d_TrustDeskModel_fund_38 : decode kY_TrustDeskModel_fund.2.1 38 = .ok (.iconst (-1), 1) := by decide +kernel
theorem d_TrustDeskModel_fund_39 : decode kY_TrustDeskModel_fund.2.1 39 = .ok (.ireturn, 1) := by decide +kernel
theorem d_TrustDeskModel_fund_17 : decode kY_TrustDeskModel_fund.2.1 17 = .ok (.iload_n 2, 1) := by decide +kernel
theorem d_TrustDeskModel_fund_18 : decode kY_TrustDeskModel_fund.2.1 18 = .ok (.i2l, 1) := by decide +kernel
theorem d_TrustDeskModel_fund_19 : decode kY_TrustDeskModel_fund.2.1 19 = .ok (.lconst 0, 1) := by decide +kernel
theorem d_TrustDeskModel_fund_20 : decode kY_TrustDeskModel_fund.2.1 20 = .ok (.ldc2_w 423, 3) := by decide +kernel
theorem k_TrustDeskModel_423 : Cond.constantLong "TrustDeskModel" 423 99999 ∈ mj_T := (mj_in1 (List.mem_of_getElem? (i := 1794) (by decide +kernel)) rfl)
theorem d_TrustDeskModel_fund_23 : decode kY_TrustDeskModel_fund.2.1 23 = .ok (.invokestatic 169, 3) := by decide +kernel
theorem d_TrustDeskModel_fund_26 : decode kY_TrustDeskModel_fund.2.1 26 = .ok (.ifCond .eq 12, 3) := by decide +kernel
theorem d_TrustDeskModel_fund_29 : decode kY_TrustDeskModel_fund.2.1 29 = .ok (.aload_n 0, 1) := by decide +kernel
theorem d_TrustDeskModel_fund_30 : decode kY_TrustDeskModel_fund.2.1 30 = .ok (.getfield 415, 3) := by decide +kernel
theorem f_TrustDeskModel_415_13 : mj_fl "TrustDeskModel" 415 13 32 := ⟨kR_TrustDeskModel, kF_TrustDeskModel, 72, "TrustDeskModel", rfl, kg_13, by decide, (mj_in1 (List.mem_of_getElem? (i := 1418) (by decide +kernel)) rfl), Or.inl rfl⟩
theorem d_TrustDeskModel_fund_33 : decode kY_TrustDeskModel_fund.2.1 33 = .ok (.bipush 12, 2) := by decide +kernel
theorem d_TrustDeskModel_fund_35 : decode kY_TrustDeskModel_fund.2.1 35 = .ok (.if_icmp .ne 5, 3) := by decide +kernel
theorem d_TrustDeskModel_fund_40 : decode kY_TrustDeskModel_fund.2.1 40 = .ok (.aload_n 0, 1) := by decide +kernel
theorem d_TrustDeskModel_fund_41 : decode kY_TrustDeskModel_fund.2.1 41 = .ok (.iconst 0, 1) := by decide +kernel
theorem d_TrustDeskModel_fund_42 : decode kY_TrustDeskModel_fund.2.1 42 = .ok (.invokevirtual 381, 3) := by decide +kernel
theorem d_TrustDeskModel_fund_45 : decode kY_TrustDeskModel_fund.2.1 45 = .ok (.aload_n 0, 1) := by decide +kernel
theorem d_TrustDeskModel_fund_46 : decode kY_TrustDeskModel_fund.2.1 46 = .ok (.invokevirtual 230, 3) := by decide +kernel
theorem d_TrustDeskModel_fund_49 : decode kY_TrustDeskModel_fund.2.1 49 = .ok (.ifCond .eq 17, 3) := by decide +kernel
theorem d_TrustDeskModel_fund_66 : decode kY_TrustDeskModel_fund.2.1 66 = .ok (.bipush 20, 2) := by decide +kernel
theorem d_TrustDeskModel_fund_68 : decode kY_TrustDeskModel_fund.2.1 68 = .ok (.aload_n 0, 1) := by decide +kernel
theorem d_TrustDeskModel_fund_69 : decode kY_TrustDeskModel_fund.2.1 69 = .ok (.getfield 415, 3) := by decide +kernel
theorem d_TrustDeskModel_fund_72 : decode kY_TrustDeskModel_fund.2.1 72 = .ok (.iadd, 1) := by decide +kernel
theorem d_TrustDeskModel_fund_73 : decode kY_TrustDeskModel_fund.2.1 73 = .ok (.istore_n 3, 1) := by decide +kernel
theorem d_TrustDeskModel_fund_74 : decode kY_TrustDeskModel_fund.2.1 74 = .ok (.aload_n 0, 1) := by decide +kernel
theorem d_TrustDeskModel_fund_75 : decode kY_TrustDeskModel_fund.2.1 75 = .ok (.iload_n 3, 1) := by decide +kernel
theorem d_TrustDeskModel_fund_76 : decode kY_TrustDeskModel_fund.2.1 76 = .ok (.invokevirtual 388, 3) := by decide +kernel
theorem d_TrustDeskModel_fund_79 : decode kY_TrustDeskModel_fund.2.1 79 = .ok (.istore 4, 2) := by decide +kernel
theorem d_TrustDeskModel_fund_81 : decode kY_TrustDeskModel_fund.2.1 81 = .ok (.iload 4, 2) := by decide +kernel
theorem d_TrustDeskModel_fund_83 : decode kY_TrustDeskModel_fund.2.1 83 = .ok (.ifCond .ge 6, 3) := by decide +kernel
theorem d_TrustDeskModel_fund_89 : decode kY_TrustDeskModel_fund.2.1 89 = .ok (.aload_n 0, 1) := by decide +kernel
theorem d_TrustDeskModel_fund_90 : decode kY_TrustDeskModel_fund.2.1 90 = .ok (.getfield 415, 3) := by decide +kernel
theorem d_TrustDeskModel_fund_93 : decode kY_TrustDeskModel_fund.2.1 93 = .ok (.istore 5, 2) := by decide +kernel
theorem d_TrustDeskModel_fund_95 : decode kY_TrustDeskModel_fund.2.1 95 = .ok (.aload_n 0, 1) := by decide +kernel
theorem d_TrustDeskModel_fund_96 : decode kY_TrustDeskModel_fund.2.1 96 = .ok (.getfield 66, 3) := by decide +kernel
theorem f_TrustDeskModel_66_13 : mj_fl "TrustDeskModel" 66 13 33 := ⟨kR_TrustDeskModel, kF_TrustDeskModel, 72, "TrustDeskModel", rfl, kg_13, by decide, (mj_in1 (List.mem_of_getElem? (i := 1419) (by decide +kernel)) rfl), Or.inl rfl⟩
theorem d_TrustDeskModel_fund_99 : decode kY_TrustDeskModel_fund.2.1 99 = .ok (.iload 5, 2) := by decide +kernel
theorem d_TrustDeskModel_fund_101 : decode kY_TrustDeskModel_fund.2.1 101 = .ok (.iload_n 1, 1) := by decide +kernel
theorem d_TrustDeskModel_fund_102 : decode kY_TrustDeskModel_fund.2.1 102 = .ok (.iastore, 1) := by decide +kernel
theorem d_TrustDeskModel_fund_103 : decode kY_TrustDeskModel_fund.2.1 103 = .ok (.aload_n 0, 1) := by decide +kernel
theorem d_TrustDeskModel_fund_104 : decode kY_TrustDeskModel_fund.2.1 104 = .ok (.getfield 69, 3) := by decide +kernel
theorem f_TrustDeskModel_69_13 : mj_fl "TrustDeskModel" 69 13 34 := ⟨kR_TrustDeskModel, kF_TrustDeskModel, 72, "TrustDeskModel", rfl, kg_13, by decide, (mj_in1 (List.mem_of_getElem? (i := 1420) (by decide +kernel)) rfl), Or.inl rfl⟩
theorem d_TrustDeskModel_fund_107 : decode kY_TrustDeskModel_fund.2.1 107 = .ok (.iload 5, 2) := by decide +kernel
theorem d_TrustDeskModel_fund_109 : decode kY_TrustDeskModel_fund.2.1 109 = .ok (.iload_n 2, 1) := by decide +kernel
theorem d_TrustDeskModel_fund_110 : decode kY_TrustDeskModel_fund.2.1 110 = .ok (.iastore, 1) := by decide +kernel
theorem d_TrustDeskModel_fund_111 : decode kY_TrustDeskModel_fund.2.1 111 = .ok (.aload_n 0, 1) := by decide +kernel
theorem d_TrustDeskModel_fund_112 : decode kY_TrustDeskModel_fund.2.1 112 = .ok (.getfield 72, 3) := by decide +kernel
theorem f_TrustDeskModel_72_13 : mj_fl "TrustDeskModel" 72 13 35 := ⟨kR_TrustDeskModel, kF_TrustDeskModel, 72, "TrustDeskModel", rfl, kg_13, by decide, (mj_in1 (List.mem_of_getElem? (i := 1421) (by decide +kernel)) rfl), Or.inl rfl⟩
theorem d_TrustDeskModel_fund_115 : decode kY_TrustDeskModel_fund.2.1 115 = .ok (.iload 5, 2) := by decide +kernel
theorem d_TrustDeskModel_fund_117 : decode kY_TrustDeskModel_fund.2.1 117 = .ok (.lconst 0, 1) := by decide +kernel
theorem d_TrustDeskModel_fund_118 : decode kY_TrustDeskModel_fund.2.1 118 = .ok (.lastore, 1) := by decide +kernel
theorem d_TrustDeskModel_fund_119 : decode kY_TrustDeskModel_fund.2.1 119 = .ok (.aload_n 0, 1) := by decide +kernel
theorem d_TrustDeskModel_fund_120 : decode kY_TrustDeskModel_fund.2.1 120 = .ok (.getfield 76, 3) := by decide +kernel
theorem f_TrustDeskModel_76_13 : mj_fl "TrustDeskModel" 76 13 36 := ⟨kR_TrustDeskModel, kF_TrustDeskModel, 72, "TrustDeskModel", rfl, kg_13, by decide, (mj_in1 (List.mem_of_getElem? (i := 1422) (by decide +kernel)) rfl), Or.inl rfl⟩
theorem d_TrustDeskModel_fund_123 : decode kY_TrustDeskModel_fund.2.1 123 = .ok (.iload 5, 2) := by decide +kernel
theorem d_TrustDeskModel_fund_125 : decode kY_TrustDeskModel_fund.2.1 125 = .ok (.iconst 0, 1) := by decide +kernel
theorem d_TrustDeskModel_fund_126 : decode kY_TrustDeskModel_fund.2.1 126 = .ok (.iastore, 1) := by decide +kernel
theorem d_TrustDeskModel_fund_127 : decode kY_TrustDeskModel_fund.2.1 127 = .ok (.aload_n 0, 1) := by decide +kernel
theorem d_TrustDeskModel_fund_128 : decode kY_TrustDeskModel_fund.2.1 128 = .ok (.getfield 79, 3) := by decide +kernel
theorem f_TrustDeskModel_79_13 : mj_fl "TrustDeskModel" 79 13 37 := ⟨kR_TrustDeskModel, kF_TrustDeskModel, 72, "TrustDeskModel", rfl, kg_13, by decide, (mj_in1 (List.mem_of_getElem? (i := 1423) (by decide +kernel)) rfl), Or.inl rfl⟩
theorem d_TrustDeskModel_fund_131 : decode kY_TrustDeskModel_fund.2.1 131 = .ok (.iload 5, 2) := by decide +kernel
theorem d_TrustDeskModel_fund_133 : decode kY_TrustDeskModel_fund.2.1 133 = .ok (.iconst (-1), 1) := by decide +kernel
theorem d_TrustDeskModel_fund_134 : decode kY_TrustDeskModel_fund.2.1 134 = .ok (.iastore, 1) := by decide +kernel
theorem d_TrustDeskModel_fund_135 : decode kY_TrustDeskModel_fund.2.1 135 = .ok (.aload_n 0, 1) := by decide +kernel
theorem d_TrustDeskModel_fund_136 : decode kY_TrustDeskModel_fund.2.1 136 = .ok (.getfield 82, 3) := by decide +kernel
theorem f_TrustDeskModel_82_13 : mj_fl "TrustDeskModel" 82 13 38 := ⟨kR_TrustDeskModel, kF_TrustDeskModel, 72, "TrustDeskModel", rfl, kg_13, by decide, (mj_in1 (List.mem_of_getElem? (i := 1424) (by decide +kernel)) rfl), Or.inl rfl⟩
theorem d_TrustDeskModel_fund_139 : decode kY_TrustDeskModel_fund.2.1 139 = .ok (.iload 5, 2) := by decide +kernel
theorem d_TrustDeskModel_fund_141 : decode kY_TrustDeskModel_fund.2.1 141 = .ok (.bipush 7, 2) := by decide +kernel
theorem d_TrustDeskModel_fund_143 : decode kY_TrustDeskModel_fund.2.1 143 = .ok (.iastore, 1) := by decide +kernel
theorem d_TrustDeskModel_fund_144 : decode kY_TrustDeskModel_fund.2.1 144 = .ok (.aload_n 0, 1) := by decide +kernel
theorem d_TrustDeskModel_fund_145 : decode kY_TrustDeskModel_fund.2.1 145 = .ok (.getfield 85, 3) := by decide +kernel
theorem f_TrustDeskModel_85_13 : mj_fl "TrustDeskModel" 85 13 39 := ⟨kR_TrustDeskModel, kF_TrustDeskModel, 72, "TrustDeskModel", rfl, kg_13, by decide, (mj_in1 (List.mem_of_getElem? (i := 1425) (by decide +kernel)) rfl), Or.inl rfl⟩
theorem d_TrustDeskModel_fund_148 : decode kY_TrustDeskModel_fund.2.1 148 = .ok (.iload 5, 2) := by decide +kernel
theorem d_TrustDeskModel_fund_150 : decode kY_TrustDeskModel_fund.2.1 150 = .ok (.iconst 1, 1) := by decide +kernel
theorem d_TrustDeskModel_fund_151 : decode kY_TrustDeskModel_fund.2.1 151 = .ok (.iastore, 1) := by decide +kernel
theorem d_TrustDeskModel_fund_152 : decode kY_TrustDeskModel_fund.2.1 152 = .ok (.iconst 0, 1) := by decide +kernel
theorem d_TrustDeskModel_fund_153 : decode kY_TrustDeskModel_fund.2.1 153 = .ok (.istore 6, 2) := by decide +kernel
theorem d_TrustDeskModel_fund_155 : decode kY_TrustDeskModel_fund.2.1 155 = .ok (.iload 6, 2) := by decide +kernel
theorem d_TrustDeskModel_fund_157 : decode kY_TrustDeskModel_fund.2.1 157 = .ok (.aload_n 0, 1) := by decide +kernel
theorem d_TrustDeskModel_fund_158 : decode kY_TrustDeskModel_fund.2.1 158 = .ok (.getfield 23, 3) := by decide +kernel
theorem d_TrustDeskModel_fund_161 : decode kY_TrustDeskModel_fund.2.1 161 = .ok (.iload_n 3, 1) := by decide +kernel
theorem d_TrustDeskModel_fund_162 : decode kY_TrustDeskModel_fund.2.1 162 = .ok (.iaload, 1) := by decide +kernel
theorem d_TrustDeskModel_fund_163 : decode kY_TrustDeskModel_fund.2.1 163 = .ok (.if_icmp .ge 111, 3) := by decide +kernel
theorem d_TrustDeskModel_fund_274 : decode kY_TrustDeskModel_fund.2.1 274 = .ok (.aload_n 0, 1) := by decide +kernel
theorem d_TrustDeskModel_fund_275 : decode kY_TrustDeskModel_fund.2.1 275 = .ok (.getfield 92, 3) := by decide +kernel
theorem f_TrustDeskModel_92_13 : mj_fl "TrustDeskModel" 92 13 41 := ⟨kR_TrustDeskModel, kF_TrustDeskModel, 72, "TrustDeskModel", rfl, kg_13, by decide, (mj_in1 (List.mem_of_getElem? (i := 1427) (by decide +kernel)) rfl), Or.inl rfl⟩
theorem d_TrustDeskModel_fund_278 : decode kY_TrustDeskModel_fund.2.1 278 = .ok (.bipush 12, 2) := by decide +kernel
theorem d_TrustDeskModel_fund_280 : decode kY_TrustDeskModel_fund.2.1 280 = .ok (.iload 5, 2) := by decide +kernel
theorem d_TrustDeskModel_fund_282 : decode kY_TrustDeskModel_fund.2.1 282 = .ok (.imul, 1) := by decide +kernel
theorem d_TrustDeskModel_fund_283 : decode kY_TrustDeskModel_fund.2.1 283 = .ok (.iload 5, 2) := by decide +kernel
theorem d_TrustDeskModel_fund_285 : decode kY_TrustDeskModel_fund.2.1 285 = .ok (.iadd, 1) := by decide +kernel
theorem d_TrustDeskModel_fund_286 : decode kY_TrustDeskModel_fund.2.1 286 = .ok (.ldc_w 432, 3) := by decide +kernel
theorem k_TrustDeskModel_432 : Cond.constant "TrustDeskModel" 432 1000000 ∈ mj_T := (mj_in1 (List.mem_of_getElem? (i := 1820) (by decide +kernel)) rfl)
theorem d_TrustDeskModel_fund_289 : decode kY_TrustDeskModel_fund.2.1 289 = .ok (.iastore, 1) := by decide +kernel
theorem d_TrustDeskModel_fund_290 : decode kY_TrustDeskModel_fund.2.1 290 = .ok (.aload_n 0, 1) := by decide +kernel
theorem d_TrustDeskModel_fund_291 : decode kY_TrustDeskModel_fund.2.1 291 = .ok (.dup, 1) := by decide +kernel
theorem d_TrustDeskModel_fund_292 : decode kY_TrustDeskModel_fund.2.1 292 = .ok (.getfield 415, 3) := by decide +kernel
theorem d_TrustDeskModel_fund_295 : decode kY_TrustDeskModel_fund.2.1 295 = .ok (.iconst 1, 1) := by decide +kernel
theorem d_TrustDeskModel_fund_296 : decode kY_TrustDeskModel_fund.2.1 296 = .ok (.iadd, 1) := by decide +kernel
theorem d_TrustDeskModel_fund_297 : decode kY_TrustDeskModel_fund.2.1 297 = .ok (.putfield 415, 3) := by decide +kernel
theorem p_TrustDeskModel_415_13 : mj_fp "TrustDeskModel" 415 13 32 (kt_TrustDeskModel 32) false := ⟨kR_TrustDeskModel, kF_TrustDeskModel, 72, "TrustDeskModel", kt_TrustDeskModel, rfl, kg_13, by decide, (mj_in1 (List.mem_of_getElem? (i := 1418) (by decide +kernel)) rfl), Or.inl rfl, kto_TrustDeskModel, kn_TrustDeskModel, rfl, rfl, fun h => by cases h⟩
theorem d_TrustDeskModel_fund_300 : decode kY_TrustDeskModel_fund.2.1 300 = .ok (.iload 5, 2) := by decide +kernel
theorem d_TrustDeskModel_fund_302 : decode kY_TrustDeskModel_fund.2.1 302 = .ok (.ireturn, 1) := by decide +kernel
theorem d_TrustDeskModel_fund_166 : decode kY_TrustDeskModel_fund.2.1 166 = .ok (.bipush 20, 2) := by decide +kernel
theorem d_TrustDeskModel_fund_168 : decode kY_TrustDeskModel_fund.2.1 168 = .ok (.iload_n 3, 1) := by decide +kernel
theorem d_TrustDeskModel_fund_169 : decode kY_TrustDeskModel_fund.2.1 169 = .ok (.imul, 1) := by decide +kernel
theorem d_TrustDeskModel_fund_170 : decode kY_TrustDeskModel_fund.2.1 170 = .ok (.iload 6, 2) := by decide +kernel
theorem d_TrustDeskModel_fund_172 : decode kY_TrustDeskModel_fund.2.1 172 = .ok (.iadd, 1) := by decide +kernel
theorem d_TrustDeskModel_fund_173 : decode kY_TrustDeskModel_fund.2.1 173 = .ok (.istore 7, 2) := by decide +kernel
theorem d_TrustDeskModel_fund_175 : decode kY_TrustDeskModel_fund.2.1 175 = .ok (.aload_n 0, 1) := by decide +kernel
theorem d_TrustDeskModel_fund_176 : decode kY_TrustDeskModel_fund.2.1 176 = .ok (.getfield 26, 3) := by decide +kernel
theorem d_TrustDeskModel_fund_179 : decode kY_TrustDeskModel_fund.2.1 179 = .ok (.iload 7, 2) := by decide +kernel
theorem d_TrustDeskModel_fund_181 : decode kY_TrustDeskModel_fund.2.1 181 = .ok (.iaload, 1) := by decide +kernel
theorem d_TrustDeskModel_fund_182 : decode kY_TrustDeskModel_fund.2.1 182 = .ok (.bipush 7, 2) := by decide +kernel
theorem d_TrustDeskModel_fund_184 : decode kY_TrustDeskModel_fund.2.1 184 = .ok (.if_icmp .ne 20, 3) := by decide +kernel
theorem d_TrustDeskModel_fund_204 : decode kY_TrustDeskModel_fund.2.1 204 = .ok (.aload_n 0, 1) := by decide +kernel
theorem d_TrustDeskModel_fund_205 : decode kY_TrustDeskModel_fund.2.1 205 = .ok (.getfield 26, 3) := by decide +kernel
theorem d_TrustDeskModel_fund_208 : decode kY_TrustDeskModel_fund.2.1 208 = .ok (.iload 7, 2) := by decide +kernel
theorem d_TrustDeskModel_fund_210 : decode kY_TrustDeskModel_fund.2.1 210 = .ok (.iaload, 1) := by decide +kernel
theorem d_TrustDeskModel_fund_211 : decode kY_TrustDeskModel_fund.2.1 211 = .ok (.bipush 9, 2) := by decide +kernel
theorem d_TrustDeskModel_fund_213 : decode kY_TrustDeskModel_fund.2.1 213 = .ok (.if_icmp .ne 31, 3) := by decide +kernel
theorem d_TrustDeskModel_fund_244 : decode kY_TrustDeskModel_fund.2.1 244 = .ok (.aload_n 0, 1) := by decide +kernel
theorem d_TrustDeskModel_fund_245 : decode kY_TrustDeskModel_fund.2.1 245 = .ok (.getfield 26, 3) := by decide +kernel
theorem d_TrustDeskModel_fund_248 : decode kY_TrustDeskModel_fund.2.1 248 = .ok (.iload 7, 2) := by decide +kernel
theorem d_TrustDeskModel_fund_250 : decode kY_TrustDeskModel_fund.2.1 250 = .ok (.iaload, 1) := by decide +kernel
theorem d_TrustDeskModel_fund_251 : decode kY_TrustDeskModel_fund.2.1 251 = .ok (.bipush 8, 2) := by decide +kernel
theorem d_TrustDeskModel_fund_253 : decode kY_TrustDeskModel_fund.2.1 253 = .ok (.if_icmp .ne 15, 3) := by decide +kernel
theorem d_TrustDeskModel_fund_268 : decode kY_TrustDeskModel_fund.2.1 268 = .ok (.iinc 6 1, 3) := by decide +kernel
theorem d_TrustDeskModel_fund_271 : decode kY_TrustDeskModel_fund.2.1 271 = .ok (.goto (-116), 3) := by decide +kernel
theorem d_TrustDeskModel_fund_256 : decode kY_TrustDeskModel_fund.2.1 256 = .ok (.aload_n 0, 1) := by decide +kernel
theorem d_TrustDeskModel_fund_257 : decode kY_TrustDeskModel_fund.2.1 257 = .ok (.iload 5, 2) := by decide +kernel
theorem d_TrustDeskModel_fund_259 : decode kY_TrustDeskModel_fund.2.1 259 = .ok (.iload_n 3, 1) := by decide +kernel
theorem d_TrustDeskModel_fund_260 : decode kY_TrustDeskModel_fund.2.1 260 = .ok (.iload 7, 2) := by decide +kernel
theorem d_TrustDeskModel_fund_262 : decode kY_TrustDeskModel_fund.2.1 262 = .ok (.iconst 0, 1) := by decide +kernel
theorem d_TrustDeskModel_fund_263 : decode kY_TrustDeskModel_fund.2.1 263 = .ok (.iconst 0, 1) := by decide +kernel
theorem d_TrustDeskModel_fund_264 : decode kY_TrustDeskModel_fund.2.1 264 = .ok (.iconst (-1), 1) := by decide +kernel
theorem d_TrustDeskModel_fund_265 : decode kY_TrustDeskModel_fund.2.1 265 = .ok (.invokevirtual 428, 3) := by decide +kernel
theorem lV_TrustDeskModel_428 : mj_lV "TrustDeskModel" 428 kY_TrustDeskModel_addEnd 6 := ⟨⟨(mj_in1 (List.mem_of_getElem? (i := 1816) (by decide +kernel)) rfl), (mj_in1 (List.mem_of_getElem? (i := 10) (by decide +kernel)) rfl), (mj_in1 (List.mem_of_getElem? (i := 1819) (by decide +kernel)) rfl), by decide, rfl, by decide⟩, (mj_in1 (List.mem_of_getElem? (i := 1818) (by decide +kernel)) rfl), (mj_in (List.mem_append_left _ (List.mem_of_getElem? (i := 110) (by decide +kernel))) rfl)⟩
theorem d_TrustDeskModel_fund_216 : decode kY_TrustDeskModel_fund.2.1 216 = .ok (.aload_n 0, 1) := by decide +kernel
theorem d_TrustDeskModel_fund_217 : decode kY_TrustDeskModel_fund.2.1 217 = .ok (.getfield 82, 3) := by decide +kernel
theorem d_TrustDeskModel_fund_220 : decode kY_TrustDeskModel_fund.2.1 220 = .ok (.iload 5, 2) := by decide +kernel
theorem d_TrustDeskModel_fund_222 : decode kY_TrustDeskModel_fund.2.1 222 = .ok (.aload_n 0, 1) := by decide +kernel
theorem d_TrustDeskModel_fund_223 : decode kY_TrustDeskModel_fund.2.1 223 = .ok (.getfield 29, 3) := by decide +kernel
theorem d_TrustDeskModel_fund_226 : decode kY_TrustDeskModel_fund.2.1 226 = .ok (.iload 7, 2) := by decide +kernel
theorem d_TrustDeskModel_fund_228 : decode kY_TrustDeskModel_fund.2.1 228 = .ok (.iaload, 1) := by decide +kernel
theorem d_TrustDeskModel_fund_229 : decode kY_TrustDeskModel_fund.2.1 229 = .ok (.iastore, 1) := by decide +kernel
theorem d_TrustDeskModel_fund_230 : decode kY_TrustDeskModel_fund.2.1 230 = .ok (.aload_n 0, 1) := by decide +kernel
theorem d_TrustDeskModel_fund_231 : decode kY_TrustDeskModel_fund.2.1 231 = .ok (.getfield 85, 3) := by decide +kernel
theorem d_TrustDeskModel_fund_234 : decode kY_TrustDeskModel_fund.2.1 234 = .ok (.iload 5, 2) := by decide +kernel
theorem d_TrustDeskModel_fund_236 : decode kY_TrustDeskModel_fund.2.1 236 = .ok (.aload_n 0, 1) := by decide +kernel
theorem d_TrustDeskModel_fund_237 : decode kY_TrustDeskModel_fund.2.1 237 = .ok (.getfield 32, 3) := by decide +kernel
theorem d_TrustDeskModel_fund_240 : decode kY_TrustDeskModel_fund.2.1 240 = .ok (.iload 7, 2) := by decide +kernel
theorem d_TrustDeskModel_fund_242 : decode kY_TrustDeskModel_fund.2.1 242 = .ok (.iaload, 1) := by decide +kernel
theorem d_TrustDeskModel_fund_243 : decode kY_TrustDeskModel_fund.2.1 243 = .ok (.iastore, 1) := by decide +kernel
theorem d_TrustDeskModel_fund_187 : decode kY_TrustDeskModel_fund.2.1 187 = .ok (.aload_n 0, 1) := by decide +kernel
theorem d_TrustDeskModel_fund_188 : decode kY_TrustDeskModel_fund.2.1 188 = .ok (.getfield 76, 3) := by decide +kernel
theorem d_TrustDeskModel_fund_191 : decode kY_TrustDeskModel_fund.2.1 191 = .ok (.iload 5, 2) := by decide +kernel
theorem d_TrustDeskModel_fund_193 : decode kY_TrustDeskModel_fund.2.1 193 = .ok (.dup2, 1) := by decide +kernel
theorem d_TrustDeskModel_fund_194 : decode kY_TrustDeskModel_fund.2.1 194 = .ok (.iaload, 1) := by decide +kernel
theorem d_TrustDeskModel_fund_195 : decode kY_TrustDeskModel_fund.2.1 195 = .ok (.aload_n 0, 1) := by decide +kernel
theorem d_TrustDeskModel_fund_196 : decode kY_TrustDeskModel_fund.2.1 196 = .ok (.getfield 29, 3) := by decide +kernel
theorem d_TrustDeskModel_fund_199 : decode kY_TrustDeskModel_fund.2.1 199 = .ok (.iload 7, 2) := by decide +kernel
theorem d_TrustDeskModel_fund_201 : decode kY_TrustDeskModel_fund.2.1 201 = .ok (.iaload, 1) := by decide +kernel
theorem d_TrustDeskModel_fund_202 : decode kY_TrustDeskModel_fund.2.1 202 = .ok (.ior, 1) := by decide +kernel
theorem d_TrustDeskModel_fund_203 : decode kY_TrustDeskModel_fund.2.1 203 = .ok (.iastore, 1) := by decide +kernel
theorem d_TrustDeskModel_fund_86 : decode kY_TrustDeskModel_fund.2.1 86 = .ok (.iload 4, 2) := by decide +kernel
theorem d_TrustDeskModel_fund_88 : decode kY_TrustDeskModel_fund.2.1 88 = .ok (.ireturn, 1) := by decide +kernel
theorem d_TrustDeskModel_fund_52 : decode kY_TrustDeskModel_fund.2.1 52 = .ok (.aload_n 0, 1) := by decide +kernel
theorem d_TrustDeskModel_fund_53 : decode kY_TrustDeskModel_fund.2.1 53 = .ok (.getfield 198, 3) := by decide +kernel
theorem d_TrustDeskModel_fund_56 : decode kY_TrustDeskModel_fund.2.1 56 = .ok (.ifCond .eq 10, 3) := by decide +kernel
theorem d_TrustDeskModel_fund_59 : decode kY_TrustDeskModel_fund.2.1 59 = .ok (.aload_n 0, 1) := by decide +kernel
theorem d_TrustDeskModel_fund_60 : decode kY_TrustDeskModel_fund.2.1 60 = .ok (.invokevirtual 425, 3) := by decide +kernel
theorem d_TrustDeskModel_fund_63 : decode kY_TrustDeskModel_fund.2.1 63 = .ok (.goto (-18), 3) := by decide +kernel
def w_TrustDeskModel_fund_x : List Nat := [1300, 1314, 1315, 1316, 1317, 1318, 1319, 1320, 1321, 1322, 1323, 1324, 1332, 20004, 20005, 20006, 20007, 20008, 20009, 20010, 20011, 20012, 20025, 20026, 20033, 20034, 20035, 20036, 20037, 20038, 20039, 20041, 20043, 20044, 20045, 20046, 20047, 20048]
set_option maxHeartbeats 100000000 in theorem tc_TrustDeskModel_fund_x {g : mj_G} {l : Launch} {d : Nat} {T0 : tm_H} {M0 : mj_M} {n0 x9 : Nat} {o0 : Nat} {x1 : Int32} {x2 : Int32} (h_o0 : T0 o0 = some (0, 13, 0)) (yR : rI M0 o0) (yC : rC M0 o0 44) (yP : rP M0 o0) (yB : rB M0 o0 12) (I0 : tm_I tm_FT (tm_in w_TrustDeskModel_fund_x) x9 T0 M0 n0 T0 M0 n0) : mj_Met g l kY_TrustDeskModel_fund (d + 27) [.ref o0, .int x1, .int x2] M0 n0 0 0 (tm_Q tm_FT (tm_in w_TrustDeskModel_fund_x) x9 T0 M0 n0 (fun r _ M => ∃ v : Int32, r = some (.int v) ∧ rI M o0 ∧ (rC M o0 44) ∧ (rP M o0) ∧ (rB M o0 12) ∧ (rv M0 o0 32 ≤ rv M o0 32))) := by
  refine mj_enter (by decide) (Nat.le_of_ble_eq_true rfl) ?_
  have K1 : rC M0 o0 44 := yC
  have K2 : rP M0 o0 := yP
  have K3 : rB M0 o0 12 := yB
  refine mv_aload_n d_TrustDeskModel_fund_0 rfl rfl ?_
  refine mv_iconst (v := 0) d_TrustDeskModel_fund_1 (by decide) ?_
  refine tr_putR (k := 0) I0 yR h_o0 rfl ⟨_, rfl⟩ (fun _ h => by cases h) rfl (fun lo hi h => by cases h) (Or.inl (by decide)) d_TrustDeskModel_fund_2 p_TrustDeskModel_1_13 rfl rfl (fun M4 I5 q6 K7 R8 A9 V10 => ?_)
  have z11 := (V10 15 (by decide))
  have z12 := (V10 16 (by decide))
  have z13 := (V10 17 (by decide))
  have z14 := (V10 19 (by decide))
  have z15 := (V10 22 (by decide))
  have z16 := (V10 24 (by decide))
  have z17 := (V10 27 (by decide))
  have z18 := (V10 32 (by decide))
  have z19 := (V10 49 (by decide))
  have z20 := (A9 5 (by decide) 44)
  have z21 := (A9 6 (by decide) 44)
  have K22 : rC M4 o0 44 := K1.same (sA_f A9 (by decide)) (sF_f V10 (by decide))
  have K23 : rP M4 o0 := K2.same (sA_f A9 (by decide)) (sF_f V10 (by decide))
  have K24 : rB M4 o0 12 := K3.same (sA_f A9 (by decide)) (sF_f V10 (by decide))
  refine mv_iload_n d_TrustDeskModel_fund_5 rfl rfl ?_
  refine mv_i2l (v := x1.toInt64) d_TrustDeskModel_fund_6 rfl ?_
  refine mv_lconst (v := 0) d_TrustDeskModel_fund_7 (by decide) ?_
  refine mv_ldc2 d_TrustDeskModel_fund_8 k_TrustDeskModel_421 ?_
  refine mv_callS (kc1 := 0) (ks1 := 0) (kc' := 0) (ks' := 0) (As := [.long x1.toInt64, .long 0, .long 999]) (st9 := [.long 999, .long 0, .long x1.toInt64]) d_TrustDeskModel_fund_11 lS_TrustDeskModel_169 (mj_enter (by decide) (Nat.le_of_ble_eq_true rfl) ?_) rfl (Nat.le_of_ble_eq_true rfl) (Nat.le_of_ble_eq_true rfl) (Nat.le_of_ble_eq_true rfl) (hst := rfl) (fun _ _ _ h => h)
  refine mv_lload_n d_TrustDeskModel_within_0 rfl rfl ?_
  refine mv_lload_n d_TrustDeskModel_within_1 rfl rfl ?_
  refine mv_lltZ (tgt := 17) (a := x1.toInt) (b := 0) d_TrustDeskModel_within_2 d_TrustDeskModel_within_3 (by decide) (mz_wide _) (by decide) (fun b25 => ?_) (fun b25 => ?_)
  · refine mv_iconst (v := 0) d_TrustDeskModel_within_17 (by decide) ?_
    refine mv_iret d_TrustDeskModel_within_18 rfl (by decide) ?_
    refine mv_if_eq_t (tgt := 38) d_TrustDeskModel_fund_14 (by decide) (by decide) ?_
    refine mv_iconst (v := (-1)) d_TrustDeskModel_fund_38 (by decide) ?_
    exact mv_iret d_TrustDeskModel_fund_39 rfl (by first | rfl | decide) ⟨_, I5, _, rfl, R8, K22, K23, K24, (by have := R8.1 15 _ _ rfl; have := R8.1 16 _ _ rfl; have := R8.1 19 _ _ rfl; omega)⟩
  · refine mv_lload_n d_TrustDeskModel_within_6 rfl rfl ?_
    refine mv_lload d_TrustDeskModel_within_7 rfl ?_
    refine mv_lgtZ (tgt := 17) (a := x1.toInt) (b := 999) d_TrustDeskModel_within_9 d_TrustDeskModel_within_10 (by decide) (mz_wide _) (by decide) (fun b26 => ?_) (fun b26 => ?_)
    · refine mv_iconst (v := 0) d_TrustDeskModel_within_17 (by decide) ?_
      refine mv_iret d_TrustDeskModel_within_18 rfl (by decide) ?_
      refine mv_if_eq_t (tgt := 38) d_TrustDeskModel_fund_14 (by decide) (by decide) ?_
      refine mv_iconst (v := (-1)) d_TrustDeskModel_fund_38 (by decide) ?_
      exact mv_iret d_TrustDeskModel_fund_39 rfl (by first | rfl | decide) ⟨_, I5, _, rfl, R8, K22, K23, K24, (by have := R8.1 15 _ _ rfl; have := R8.1 16 _ _ rfl; have := R8.1 19 _ _ rfl; omega)⟩
    · refine mv_iconst (v := 1) d_TrustDeskModel_within_13 (by decide) ?_
      refine mv_goto (tgt := 18) d_TrustDeskModel_within_14 (by decide) ?_
      refine mv_iret d_TrustDeskModel_within_18 rfl (by decide) ?_
      refine mv_if_eq_f (tgt := 38) d_TrustDeskModel_fund_14 (by decide) (by decide) ?_
      refine mv_iload_n d_TrustDeskModel_fund_17 rfl rfl ?_
      refine mv_i2l (v := x2.toInt64) d_TrustDeskModel_fund_18 rfl ?_
      refine mv_lconst (v := 0) d_TrustDeskModel_fund_19 (by decide) ?_
      refine mv_ldc2 d_TrustDeskModel_fund_20 k_TrustDeskModel_423 ?_
      refine mv_callS (kc1 := 0) (ks1 := 0) (kc' := 0) (ks' := 0) (As := [.long x2.toInt64, .long 0, .long 99999]) (st9 := [.long 99999, .long 0, .long x2.toInt64]) d_TrustDeskModel_fund_23 lS_TrustDeskModel_169 (mj_enter (by decide) (Nat.le_of_ble_eq_true rfl) ?_) rfl (Nat.le_of_ble_eq_true rfl) (Nat.le_of_ble_eq_true rfl) (Nat.le_of_ble_eq_true rfl) (hst := rfl) (fun _ _ _ h => h)
      refine mv_lload_n d_TrustDeskModel_within_0 rfl rfl ?_
      refine mv_lload_n d_TrustDeskModel_within_1 rfl rfl ?_
      refine mv_lltZ (tgt := 17) (a := x2.toInt) (b := 0) d_TrustDeskModel_within_2 d_TrustDeskModel_within_3 (by decide) (mz_wide _) (by decide) (fun b27 => ?_) (fun b27 => ?_)
      · refine mv_iconst (v := 0) d_TrustDeskModel_within_17 (by decide) ?_
        refine mv_iret d_TrustDeskModel_within_18 rfl (by decide) ?_
        refine mv_if_eq_t (tgt := 38) d_TrustDeskModel_fund_26 (by decide) (by decide) ?_
        refine mv_iconst (v := (-1)) d_TrustDeskModel_fund_38 (by decide) ?_
        exact mv_iret d_TrustDeskModel_fund_39 rfl (by first | rfl | decide) ⟨_, I5, _, rfl, R8, K22, K23, K24, (by have := R8.1 15 _ _ rfl; have := R8.1 16 _ _ rfl; have := R8.1 19 _ _ rfl; omega)⟩
      · refine mv_lload_n d_TrustDeskModel_within_6 rfl rfl ?_
        refine mv_lload d_TrustDeskModel_within_7 rfl ?_
        refine mv_lgtZ (tgt := 17) (a := x2.toInt) (b := 99999) d_TrustDeskModel_within_9 d_TrustDeskModel_within_10 (by decide) (mz_wide _) (by decide) (fun b28 => ?_) (fun b28 => ?_)
        · refine mv_iconst (v := 0) d_TrustDeskModel_within_17 (by decide) ?_
          refine mv_iret d_TrustDeskModel_within_18 rfl (by decide) ?_
          refine mv_if_eq_t (tgt := 38) d_TrustDeskModel_fund_26 (by decide) (by decide) ?_
          refine mv_iconst (v := (-1)) d_TrustDeskModel_fund_38 (by decide) ?_
          exact mv_iret d_TrustDeskModel_fund_39 rfl (by first | rfl | decide) ⟨_, I5, _, rfl, R8, K22, K23, K24, (by have := R8.1 15 _ _ rfl; have := R8.1 16 _ _ rfl; have := R8.1 19 _ _ rfl; omega)⟩
        · refine mv_iconst (v := 1) d_TrustDeskModel_within_13 (by decide) ?_
          refine mv_goto (tgt := 18) d_TrustDeskModel_within_14 (by decide) ?_
          refine mv_iret d_TrustDeskModel_within_18 rfl (by decide) ?_
          refine mv_if_eq_f (tgt := 38) d_TrustDeskModel_fund_26 (by decide) (by decide) ?_
          refine mv_aload_n d_TrustDeskModel_fund_29 rfl rfl ?_
          obtain ⟨v30, q29⟩ := tm_atI I5 h_o0 (k := 32) rfl
          refine tr_getK q29 d_TrustDeskModel_fund_30 f_TrustDeskModel_415_13 ?_
          have := R8.f (k := 32) q29 rfl
          have := (tm_rv q29).symm.trans z18
          have := tm_rv q29
          refine mv_bipush (v := 12) d_TrustDeskModel_fund_33 (by decide) ?_
          have := mz_hi v30
          refine mv_icmp_neZ (tgt := 40) (a := v30.toInt) (b := 12) d_TrustDeskModel_fund_35 (by decide) rfl (by decide) (fun b31 => ?_) (fun b31 => ?_)
          · refine mv_aload_n d_TrustDeskModel_fund_40 rfl rfl ?_
            refine mv_iconst (v := 0) d_TrustDeskModel_fund_41 (by decide) ?_
            obtain ⟨_, b38, -⟩ := I5.1 _ _ h_o0
            have : (0 : Int32).toInt = 0 := by decide
            refine mv_callV (kc' := 0) (ks' := 0) (As := [.int 0]) (st9 := [.int 0, .ref o0]) d_TrustDeskModel_fund_42 lV_TrustDeskModel_381 b38 rfl (tc_TrustDeskModel_starts_x (d := (d + 24)) (x9 := x9) (o0 := o0) (x1 := 0) h_o0 (by decide) R8 I5.start) rfl (Nat.le_of_ble_eq_true rfl) (Nat.le_of_ble_eq_true rfl) (Nat.le_of_ble_eq_true rfl) (hst := rfl) (fun b32r M33 n34 b32 => ?_)
            obtain ⟨T35, J36, rfl, R39, f40, f41, f42, f43, f44, f45⟩ := b32
            have I37 := I5.call J36 (tm_sub (by decide)) (Or.inl rfl)
            have t46 := J36.up h_o0
            have z47 := (rv_c I5 J36 (I5.up h_o0) (k := 27) rfl).trans z17
            have z48 := (rv_c I5 J36 (I5.up h_o0) (k := 32) rfl).trans z18
            have z49 := (rv_c I5 J36 (I5.up h_o0) (k := 49) rfl).trans z19
            have K50 : rC M33 o0 44 := K22.same (sA_c I5 J36 (I5.up h_o0) (by decide +kernel)) (sF_c I5 J36 (I5.up h_o0) (by decide +kernel))
            have K51 : rP M33 o0 := K23.same (sA_c I5 J36 (I5.up h_o0) (by decide +kernel)) (sF_c I5 J36 (I5.up h_o0) (by decide +kernel))
            have K52 : rB M33 o0 12 := K24.same (sA_c I5 J36 (I5.up h_o0) (by decide +kernel)) (sF_c I5 J36 (I5.up h_o0) (by decide +kernel))
            have K53 : rW M33 o0 := rW.start f40 R39 f44 f45 f43
            clear z17 z18 z19
            have q54 := J36.keep h_o0 (by decide) q6
            have q55 := J36.keep h_o0 (by decide) q29
            have L45_56 : ∀ (k : Nat) (T_56 : tm_H) (M_56 : mj_M) (n_56 : Nat), tm_I tm_FT (tm_in w_TrustDeskModel_fund_x) x9 T0 M0 n0 T_56 M_56 n_56 → T_56 o0 = some (0, 13, 0) → (rv M_56 o0 19 = 0 → rv M_56 o0 22 = 0) → rv M_56 o0 27 = rv M0 o0 27 → rv M_56 o0 32 = rv M0 o0 32 → rv M_56 o0 49 = rv M0 o0 49 → ra M_56 o0 6 44 ≤ 12 → (rI M_56 o0) → (rC M_56 o0 44) → (rP M_56 o0) → (rB M_56 o0 12) → (rW M_56 o0) → 5 * (401 - rv M_56 o0 16) - rv M_56 o0 19 < (k : Int) → mj_V g l kY_TrustDeskModel_fund (d + 27) 45 [(0, .ref o0), (1, .int x1), (2, .int x2)] [] M_56 n_56 0 0 (tm_Q tm_FT (tm_in w_TrustDeskModel_fund_x) x9 T0 M0 n0 (fun r _ M => ∃ v : Int32, r = some (.int v) ∧ rI M o0 ∧ (rC M o0 44) ∧ (rP M o0) ∧ (rB M o0 12) ∧ (rv M0 o0 32 ≤ rv M o0 32))) := by
              intro k56
              induction k56 with
              | zero =>
                intro T_56 M_56 n_56 I_56 h_q0_56 iv0_56 iv1_56 iv2_56 iv3_56 iv4_56 kKR_56 kKC_56 kKP_56 kKB_56 kKW_56 hk56
                have := kKR_56.1 15 _ _ rfl
                have := kKR_56.1 16 _ _ rfl
                have := kKR_56.1 19 _ _ rfl
                exfalso; omega
              | succ k56 ih56 =>
                intro T_56 M_56 n_56 I_56 h_q0_56 iv0_56 iv1_56 iv2_56 iv3_56 iv4_56 kKR_56 kKC_56 kKP_56 kKB_56 kKW_56 hk56
                refine mv_aload_n d_TrustDeskModel_fund_45 rfl rfl ?_
                obtain ⟨_, b57, -⟩ := I_56.1 _ _ h_q0_56
                refine mv_callV (kc1 := 0) (ks1 := 0) (kc' := 0) (ks' := 0) (As := []) (st9 := [.ref o0]) d_TrustDeskModel_fund_46 lV_TrustDeskModel_230 b57 rfl (mj_enter (by decide) (Nat.le_of_ble_eq_true rfl) ?_) rfl (Nat.le_of_ble_eq_true rfl) (Nat.le_of_ble_eq_true rfl) (Nat.le_of_ble_eq_true rfl) (hst := rfl) (fun _ _ _ h => h)
                refine mv_aload_n d_TrustDeskModel_isWell_0 rfl rfl ?_
                obtain ⟨v59, q58⟩ := tm_atI I_56 h_q0_56 (k := 19) rfl
                refine tr_getK q58 d_TrustDeskModel_isWell_1 f_TrustDeskModel_224_13 ?_
                have := kKR_56.f (k := 19) q58 rfl
                have := tm_rv q58
                have := mz_hi v59
                refine mv_if_neZ (tgt := 11) (a := v59.toInt) d_TrustDeskModel_isWell_4 (by decide) rfl (fun b60 => ?_) (fun b60 => ?_)
                · refine mv_iconst (v := 0) d_TrustDeskModel_isWell_11 (by decide) ?_
                  refine mv_iret d_TrustDeskModel_isWell_12 rfl (by decide) ?_
                  refine mv_if_eq_t (tgt := 66) d_TrustDeskModel_fund_49 (by decide) (by decide) ?_
                  refine mv_bipush (v := 20) d_TrustDeskModel_fund_66 (by decide) ?_
                  refine mv_aload_n d_TrustDeskModel_fund_68 rfl rfl ?_
                  obtain ⟨v62, q61⟩ := tm_atI I_56 h_q0_56 (k := 32) rfl
                  refine tr_getK q61 d_TrustDeskModel_fund_69 f_TrustDeskModel_415_13 ?_
                  have := kKR_56.f (k := 32) q61 rfl
                  have := tm_rv q61
                  refine mv_iadd d_TrustDeskModel_fund_72 ?_
                  refine mv_istore_n (lv' := [(3, .int (20 + v62)), (0, .ref o0), (1, .int x1), (2, .int x2)]) d_TrustDeskModel_fund_73 rfl (by decide) rfl ?_
                  refine mv_aload_n d_TrustDeskModel_fund_74 rfl rfl ?_
                  refine mv_iload_n d_TrustDeskModel_fund_75 rfl rfl ?_
                  obtain ⟨_, b69, -⟩ := I_56.1 _ _ h_q0_56
                  have b70 : (20 + v62 : Int32).toInt = (20 + v62.toInt) := mz_add2 (by decide) rfl (by have := kKR_56.1 15 _ _ rfl; have := kKR_56.1 16 _ _ rfl; have := kKR_56.1 19 _ _ rfl; omega) (by have := kKR_56.1 15 _ _ rfl; have := kKR_56.1 16 _ _ rfl; have := kKR_56.1 19 _ _ rfl; omega)
                  refine mv_callV (kc' := 0) (ks' := 0) (As := [.int (20 + v62)]) (st9 := [.int (20 + v62), .ref o0]) d_TrustDeskModel_fund_76 lV_TrustDeskModel_388 b69 rfl (tc_TrustDeskModel_stops_x (d := (d + 25)) (x9 := x9) (o0 := o0) (x1 := (20 + v62)) h_q0_56 kKR_56 (by have := kKR_56.1 15 _ _ rfl; have := kKR_56.1 16 _ _ rfl; have := kKR_56.1 19 _ _ rfl; omega) I_56.start) rfl (Nat.le_of_ble_eq_true rfl) (Nat.le_of_ble_eq_true rfl) (Nat.le_of_ble_eq_true rfl) (hst := rfl) (fun b63r M64 n65 b63 => ?_)
                  obtain ⟨T66, J67, v71, rfl, R72, f73, f74⟩ := b63
                  have I68 := I_56.call J67 (tm_sub (by decide)) (Or.inl rfl)
                  have t75 := J67.up h_q0_56
                  replace f73 := Im.i f73
                  replace f74 := Im.i f74
                  have z76 := (rv_c I_56 J67 (I_56.up h_o0) (k := 15) rfl)
                  have z77 := (rv_c I_56 J67 (I_56.up h_o0) (k := 16) rfl)
                  have z78 := (rv_c I_56 J67 (I_56.up h_o0) (k := 17) rfl)
                  have z79 := (rv_c I_56 J67 (I_56.up h_o0) (k := 19) rfl)
                  have z80 := (rv_c I_56 J67 (I_56.up h_o0) (k := 22) rfl)
                  have z81 := (rv_c I_56 J67 (I_56.up h_o0) (k := 24) rfl)
                  have z82 := (rv_c I_56 J67 (I_56.up h_o0) (k := 27) rfl)
                  have z83 := (rv_c I_56 J67 (I_56.up h_o0) (k := 32) rfl)
                  have z84 := (rv_c I_56 J67 (I_56.up h_o0) (k := 49) rfl)
                  have K85 : rP M64 o0 := kKP_56.same (sA_c I_56 J67 (I_56.up h_o0) (by decide +kernel)) (sF_c I_56 J67 (I_56.up h_o0) (by decide +kernel))
                  have K86 : rB M64 o0 12 := kKB_56.same (sA_c I_56 J67 (I_56.up h_o0) (by decide +kernel)) (sF_c I_56 J67 (I_56.up h_o0) (by decide +kernel))
                  have K87 : (v71.toInt < 0 → rC M64 o0 44) ∧ (0 ≤ v71.toInt → rC M64 o0 ((20 + v62).toNatClampNeg)) := rC.st kKC_56 kKR_56 kKW_56 (by have := mz_nat9 (i := (20 + v62)) (by have := kKR_56.1 15 _ _ rfl; have := kKR_56.1 16 _ _ rfl; have := kKR_56.1 19 _ _ rfl; omega); have := kKR_56.1 15 _ _ rfl; have := kKR_56.1 16 _ _ rfl; have := kKR_56.1 19 _ _ rfl; omega) (by unfold rU; have := mz_nat9 (i := (20 + v62)) (by have := kKR_56.1 15 _ _ rfl; have := kKR_56.1 16 _ _ rfl; have := kKR_56.1 19 _ _ rfl; omega); have := kKR_56.1 15 _ _ rfl; have := kKR_56.1 16 _ _ rfl; have := kKR_56.1 19 _ _ rfl; omega) f73 f74 (sA_c I_56 J67 (I_56.up h_o0) (by decide)) (sF_c I_56 J67 (I_56.up h_o0) (by decide))
                  have h88 := kc_of f73 f74 kKR_56 kKW_56
                  have := (kKR_56.2 6 _ _ rfl 44)
                  have K89 : sA [7] M64 M64 o0 := sA.rf
                  have : 0 ≤ v71.toInt → ra M64 o0 6 (20 + v62).toNatClampNeg = ra M_56 o0 6 44 := fun h9 => by
                    by_cases w9 : rv M_56 o0 19 = 0
                    · exact (f74.o w9).2.2.2.2.2.2.2
                    · have := (f73.o w9).1; omega
                  have q90 := J67.keep h_q0_56 (by decide) q58
                  have q91 := J67.keep h_q0_56 (by decide) q61
                  refine mv_istore (lv' := [(4, .int v71), (3, .int (20 + v62)), (0, .ref o0), (1, .int x1), (2, .int x2)]) d_TrustDeskModel_fund_79 (by decide) rfl ?_
                  refine mv_iload d_TrustDeskModel_fund_81 rfl ?_
                  have := mz_hi v71
                  refine mv_if_geZ (tgt := 89) (a := v71.toInt) d_TrustDeskModel_fund_83 (by decide) rfl (fun b92 => ?_) (fun b92 => ?_)
                  · have K93 : rC M64 o0 ((20 + v62).toNatClampNeg) := K87.2 (by omega)
                    refine mv_aload_n d_TrustDeskModel_fund_89 rfl rfl ?_
                    refine tr_getK (k := 32) q91 d_TrustDeskModel_fund_90 f_TrustDeskModel_415_13 ?_
                    refine mv_istore (lv' := [(5, .int v62), (4, .int v71), (3, .int (20 + v62)), (0, .ref o0), (1, .int x1), (2, .int x2)]) d_TrustDeskModel_fund_93 (by decide) rfl ?_
                    refine mv_aload_n d_TrustDeskModel_fund_95 rfl rfl ?_
                    obtain ⟨a95, q94, t_a95⟩ := tm_atR I68 t75 (k := 33) rfl
                    refine tr_getK q94 d_TrustDeskModel_fund_96 f_TrustDeskModel_66_13 ?_
                    refine mv_iload d_TrustDeskModel_fund_99 rfl ?_
                    refine mv_iload_n d_TrustDeskModel_fund_101 rfl rfl ?_
                    refine tr_iastR (k := 33) I68 R72 (I68.up h_o0) q94 t_a95 (by decide) (by decide) (fun lo hi h => by cases h; have := R72.1 15 _ _ rfl; have := R72.1 16 _ _ rfl; have := R72.1 19 _ _ rfl; exact ⟨by show (0 : Int) ≤ x1.toInt; omega, by show x1.toInt ≤ (999 : Int); omega⟩) (Or.inl (by decide)) d_TrustDeskModel_fund_102 (vp_in_iff.mpr (by have := R72.1 15 _ _ rfl; have := R72.1 16 _ _ rfl; have := R72.1 19 _ _ rfl; omega)) (fun M96 I97 K98 R99 E100 A101 V102 => ?_)
                    have z103 := (V102 15).trans z76
                    have z104 := (V102 16).trans z77
                    have z105 := (V102 17).trans z78
                    have z106 := (V102 19).trans z79
                    have z107 := (V102 22).trans z80
                    have z108 := (V102 24).trans z81
                    have z109 := (V102 27).trans z82
                    have z110 := (V102 32).trans z83
                    have z111 := (V102 49).trans z84
                    have z112 := (A101 5 (by decide) rfl 44)
                    have z113 := (A101 6 (by decide) rfl 44)
                    have z114 := (A101 6 (by decide) rfl ((20 + v62).toNatClampNeg))
                    have K115 : rP M96 o0 := K85.same (sA_a A101 (by decide +kernel)) (sF_a V102)
                    have K116 : rB M96 o0 12 := K86.same (sA_a A101 (by decide +kernel)) (sF_a V102)
                    have K117 : sA [7] M64 M96 o0 := K89.trans (sA_a A101 (by decide +kernel))
                    have K118 : rC M96 o0 ((20 + v62).toNatClampNeg) := K93.same (sA_a A101 (by decide +kernel)) (sF_a V102)
                    clear z76 z77 z78 z80 z81 z82 z83 z84
                    refine mv_aload_n d_TrustDeskModel_fund_103 rfl rfl ?_
                    obtain ⟨a120, q119, t_a120⟩ := tm_atR I97 t75 (k := 34) rfl
                    refine tr_getK q119 d_TrustDeskModel_fund_104 f_TrustDeskModel_69_13 ?_
                    refine mv_iload d_TrustDeskModel_fund_107 rfl ?_
                    refine mv_iload_n d_TrustDeskModel_fund_109 rfl rfl ?_
                    refine tr_iastR (k := 34) I97 R99 (I97.up h_o0) q119 t_a120 (by decide) (by decide) (fun lo hi h => by cases h; have := R99.1 15 _ _ rfl; have := R99.1 16 _ _ rfl; have := R99.1 19 _ _ rfl; exact ⟨by show (0 : Int) ≤ x2.toInt; omega, by show x2.toInt ≤ (99999 : Int); omega⟩) (Or.inl (by decide)) d_TrustDeskModel_fund_110 (vp_in_iff.mpr (by have := R99.1 15 _ _ rfl; have := R99.1 16 _ _ rfl; have := R99.1 19 _ _ rfl; omega)) (fun M121 I122 K123 R124 E125 A126 V127 => ?_)
                    have z128 := (V127 15).trans z103
                    have z129 := (V127 16).trans z104
                    have z130 := (V127 17).trans z105
                    have z131 := (V127 19).trans z106
                    have z132 := (V127 22).trans z107
                    have z133 := (V127 24).trans z108
                    have z134 := (V127 27).trans z109
                    have z135 := (V127 32).trans z110
                    have z136 := (V127 49).trans z111
                    have z137 := (A126 5 (by decide) rfl 44).trans z112
                    have z138 := (A126 6 (by decide) rfl 44).trans z113
                    have z139 := (A126 6 (by decide) rfl ((20 + v62).toNatClampNeg)).trans z114
                    have K140 : rP M121 o0 := K115.same (sA_a A126 (by decide +kernel)) (sF_a V127)
                    have K141 : rB M121 o0 12 := K116.same (sA_a A126 (by decide +kernel)) (sF_a V127)
                    have K142 : sA [7] M64 M121 o0 := K117.trans (sA_a A126 (by decide +kernel))
                    have K143 : rC M121 o0 ((20 + v62).toNatClampNeg) := K118.same (sA_a A126 (by decide +kernel)) (sF_a V127)
                    clear z103 z104 z105 z107 z108 z109 z110 z111 z112 z113 z114
                    refine mv_aload_n d_TrustDeskModel_fund_111 rfl rfl ?_
                    obtain ⟨a145, q144, t_a145⟩ := tm_atR I122 t75 (k := 35) rfl
                    refine tr_getK q144 d_TrustDeskModel_fund_112 f_TrustDeskModel_72_13 ?_
                    refine mv_iload d_TrustDeskModel_fund_115 rfl ?_
                    refine mv_lconst (v := 0) d_TrustDeskModel_fund_117 (by decide) ?_
                    refine tr_lastR (k := 35) I122 R124 (I122.up h_o0) q144 t_a145 (by decide) (by decide) (fun lo hi h => by cases h; exact (by decide)) (Or.inl (by decide)) d_TrustDeskModel_fund_118 (vp_in_iff.mpr (by have := R124.1 15 _ _ rfl; have := R124.1 16 _ _ rfl; have := R124.1 19 _ _ rfl; omega)) (fun M146 I147 K148 R149 E150 A151 V152 => ?_)
                    have z153 := (V152 15).trans z128
                    have z154 := (V152 16).trans z129
                    have z155 := (V152 17).trans z130
                    have z156 := (V152 19).trans z131
                    have z157 := (V152 22).trans z132
                    have z158 := (V152 24).trans z133
                    have z159 := (V152 27).trans z134
                    have z160 := (V152 32).trans z135
                    have z161 := (V152 49).trans z136
                    have z162 := (A151 5 (by decide) rfl 44).trans z137
                    have z163 := (A151 6 (by decide) rfl 44).trans z138
                    have z164 := (A151 6 (by decide) rfl ((20 + v62).toNatClampNeg)).trans z139
                    have K165 : rP M146 o0 := K140.same (sA_a A151 (by decide +kernel)) (sF_a V152)
                    have K166 : rB M146 o0 12 := K141.same (sA_a A151 (by decide +kernel)) (sF_a V152)
                    have K167 : sA [7] M64 M146 o0 := K142.trans (sA_a A151 (by decide +kernel))
                    have K168 : rC M146 o0 ((20 + v62).toNatClampNeg) := K143.same (sA_a A151 (by decide +kernel)) (sF_a V152)
                    clear z128 z129 z130 z132 z133 z134 z135 z136 z137 z138 z139
                    refine mv_aload_n d_TrustDeskModel_fund_119 rfl rfl ?_
                    obtain ⟨a170, q169, t_a170⟩ := tm_atR I147 t75 (k := 36) rfl
                    refine tr_getK q169 d_TrustDeskModel_fund_120 f_TrustDeskModel_76_13 ?_
                    refine mv_iload d_TrustDeskModel_fund_123 rfl ?_
                    refine mv_iconst (v := 0) d_TrustDeskModel_fund_125 (by decide) ?_
                    refine tr_iastR (k := 36) I147 R149 (I147.up h_o0) q169 t_a170 (by decide) (by decide) (fun lo hi h => by cases h) (Or.inl (by decide)) d_TrustDeskModel_fund_126 (vp_in_iff.mpr (by have := R149.1 15 _ _ rfl; have := R149.1 16 _ _ rfl; have := R149.1 19 _ _ rfl; omega)) (fun M171 I172 K173 R174 E175 A176 V177 => ?_)
                    have z178 := (V177 15).trans z153
                    have z179 := (V177 16).trans z154
                    have z180 := (V177 17).trans z155
                    have z181 := (V177 19).trans z156
                    have z182 := (V177 22).trans z157
                    have z183 := (V177 24).trans z158
                    have z184 := (V177 27).trans z159
                    have z185 := (V177 32).trans z160
                    have z186 := (V177 49).trans z161
                    have z187 := (A176 5 (by decide) rfl 44).trans z162
                    have z188 := (A176 6 (by decide) rfl 44).trans z163
                    have z189 := (A176 6 (by decide) rfl ((20 + v62).toNatClampNeg)).trans z164
                    have K190 : rP M171 o0 := K165.same (sA_a A176 (by decide +kernel)) (sF_a V177)
                    have K191 : rB M171 o0 12 := K166.same (sA_a A176 (by decide +kernel)) (sF_a V177)
                    have K192 : sA [7] M64 M171 o0 := K167.trans (sA_a A176 (by decide +kernel))
                    have K193 : rC M171 o0 ((20 + v62).toNatClampNeg) := K168.same (sA_a A176 (by decide +kernel)) (sF_a V177)
                    clear z153 z154 z155 z157 z158 z159 z160 z161 z162 z163 z164
                    refine mv_aload_n d_TrustDeskModel_fund_127 rfl rfl ?_
                    obtain ⟨a195, q194, t_a195⟩ := tm_atR I172 t75 (k := 37) rfl
                    refine tr_getK q194 d_TrustDeskModel_fund_128 f_TrustDeskModel_79_13 ?_
                    refine mv_iload d_TrustDeskModel_fund_131 rfl ?_
                    refine mv_iconst (v := (-1)) d_TrustDeskModel_fund_133 (by decide) ?_
                    refine tr_iastR (k := 37) I172 R174 (I172.up h_o0) q194 t_a195 (by decide) (by decide) (fun lo hi h => by cases h; exact (by decide)) (Or.inl (by decide)) d_TrustDeskModel_fund_134 (vp_in_iff.mpr (by have := R174.1 15 _ _ rfl; have := R174.1 16 _ _ rfl; have := R174.1 19 _ _ rfl; omega)) (fun M196 I197 K198 R199 E200 A201 V202 => ?_)
                    have z203 := (V202 15).trans z178
                    have z204 := (V202 16).trans z179
                    have z205 := (V202 17).trans z180
                    have z206 := (V202 19).trans z181
                    have z207 := (V202 22).trans z182
                    have z208 := (V202 24).trans z183
                    have z209 := (V202 27).trans z184
                    have z210 := (V202 32).trans z185
                    have z211 := (V202 49).trans z186
                    have z212 := (A201 5 (by decide) rfl 44).trans z187
                    have z213 := (A201 6 (by decide) rfl 44).trans z188
                    have z214 := (A201 6 (by decide) rfl ((20 + v62).toNatClampNeg)).trans z189
                    have K215 : rP M196 o0 := K190.out A201 E200 V202 (by have := mz_nat9 (i := v62) (by have := R174.1 15 _ _ rfl; have := R174.1 16 _ _ rfl; have := R174.1 19 _ _ rfl; omega); have := R174.1 15 _ _ rfl; have := R174.1 16 _ _ rfl; have := R174.1 19 _ _ rfl; omega)
                    have K216 : rB M196 o0 12 := K191.out A201 E200 V202 (by have := mz_nat9 (i := v62) (by have := R174.1 15 _ _ rfl; have := R174.1 16 _ _ rfl; have := R174.1 19 _ _ rfl; omega); have := R174.1 15 _ _ rfl; have := R174.1 16 _ _ rfl; have := R174.1 19 _ _ rfl; omega)
                    have K217 : sA [7] M64 M196 o0 := K192.trans (sA_a A201 (by decide +kernel))
                    have K218 : rC M196 o0 ((20 + v62).toNatClampNeg) := K193.same (sA_a A201 (by decide +kernel)) (sF_a V202)
                    have := (K191.2 v62.toNatClampNeg (by have := mz_nat9 (i := v62) (by have := R174.1 15 _ _ rfl; have := R174.1 16 _ _ rfl; have := R174.1 19 _ _ rfl; omega); have := R174.1 15 _ _ rfl; have := R174.1 16 _ _ rfl; have := R174.1 19 _ _ rfl; omega) (by have := mz_nat9 (i := v62) (by have := R174.1 15 _ _ rfl; have := R174.1 16 _ _ rfl; have := R174.1 19 _ _ rfl; omega); have := R174.1 15 _ _ rfl; have := R174.1 16 _ _ rfl; have := R174.1 19 _ _ rfl; omega)).1 (by have := mz_nat9 (i := v62) (by have := R174.1 15 _ _ rfl; have := R174.1 16 _ _ rfl; have := R174.1 19 _ _ rfl; omega); have := R174.1 15 _ _ rfl; have := R174.1 16 _ _ rfl; have := R174.1 19 _ _ rfl; omega)
                    have := A201 43 (by decide) rfl v62.toNatClampNeg
                    have : ra M196 o0 37 v62.toNatClampNeg = -1 := (E200 _).trans (if_pos rfl)
                    clear z178 z179 z180 z182 z183 z184 z185 z186 z187 z188 z189
                    refine mv_aload_n d_TrustDeskModel_fund_135 rfl rfl ?_
                    obtain ⟨a220, q219, t_a220⟩ := tm_atR I197 t75 (k := 38) rfl
                    refine tr_getK q219 d_TrustDeskModel_fund_136 f_TrustDeskModel_82_13 ?_
                    refine mv_iload d_TrustDeskModel_fund_139 rfl ?_
                    refine mv_bipush (v := 7) d_TrustDeskModel_fund_141 (by decide) ?_
                    refine tr_iastR (k := 38) I197 R199 (I197.up h_o0) q219 t_a220 (by decide) (by decide) (fun lo hi h => by cases h) (Or.inl (by decide)) d_TrustDeskModel_fund_143 (vp_in_iff.mpr (by have := R199.1 15 _ _ rfl; have := R199.1 16 _ _ rfl; have := R199.1 19 _ _ rfl; omega)) (fun M221 I222 K223 R224 E225 A226 V227 => ?_)
                    have z228 := (V227 15).trans z203
                    have z229 := (V227 16).trans z204
                    have z230 := (V227 17).trans z205
                    have z231 := (V227 19).trans z206
                    have z232 := (V227 22).trans z207
                    have z233 := (V227 24).trans z208
                    have z234 := (V227 27).trans z209
                    have z235 := (V227 32).trans z210
                    have z236 := (V227 49).trans z211
                    have z237 := (A226 5 (by decide) rfl 44).trans z212
                    have z238 := (A226 6 (by decide) rfl 44).trans z213
                    have z239 := (A226 6 (by decide) rfl ((20 + v62).toNatClampNeg)).trans z214
                    have z240 := (A226 43 (by decide) rfl v62.toNatClampNeg)
                    have z241 := (A226 37 (by decide) rfl v62.toNatClampNeg)
                    have K242 : rP M221 o0 := K215.same (sA_a A226 (by decide +kernel)) (sF_a V227)
                    have K243 : rB M221 o0 12 := K216.same (sA_a A226 (by decide +kernel)) (sF_a V227)
                    have K244 : sA [7] M64 M221 o0 := K217.trans (sA_a A226 (by decide +kernel))
                    have K245 : rC M221 o0 ((20 + v62).toNatClampNeg) := K218.same (sA_a A226 (by decide +kernel)) (sF_a V227)
                    clear z203 z204 z205 z207 z208 z209 z210 z211 z212 z213 z214
                    refine mv_aload_n d_TrustDeskModel_fund_144 rfl rfl ?_
                    obtain ⟨a247, q246, t_a247⟩ := tm_atR I222 t75 (k := 39) rfl
                    refine tr_getK q246 d_TrustDeskModel_fund_145 f_TrustDeskModel_85_13 ?_
                    refine mv_iload d_TrustDeskModel_fund_148 rfl ?_
                    refine mv_iconst (v := 1) d_TrustDeskModel_fund_150 (by decide) ?_
                    refine tr_iastR (k := 39) I222 R224 (I222.up h_o0) q246 t_a247 (by decide) (by decide) (fun lo hi h => by cases h) (Or.inl (by decide)) d_TrustDeskModel_fund_151 (vp_in_iff.mpr (by have := R224.1 15 _ _ rfl; have := R224.1 16 _ _ rfl; have := R224.1 19 _ _ rfl; omega)) (fun M248 I249 K250 R251 E252 A253 V254 => ?_)
                    have z255 := (V254 15).trans z228
                    have z256 := (V254 16).trans z229
                    have z257 := (V254 17).trans z230
                    have z258 := (V254 19).trans z231
                    have z259 := (V254 22).trans z232
                    have z260 := (V254 24).trans z233
                    have z261 := (V254 27).trans z234
                    have z262 := (V254 32).trans z235
                    have z263 := (V254 49).trans z236
                    have z264 := (A253 5 (by decide) rfl 44).trans z237
                    have z265 := (A253 6 (by decide) rfl 44).trans z238
                    have z266 := (A253 6 (by decide) rfl ((20 + v62).toNatClampNeg)).trans z239
                    have z267 := (A253 43 (by decide) rfl v62.toNatClampNeg).trans z240
                    have z268 := (A253 37 (by decide) rfl v62.toNatClampNeg).trans z241
                    have K269 : rP M248 o0 := K242.same (sA_a A253 (by decide +kernel)) (sF_a V254)
                    have K270 : rB M248 o0 12 := K243.same (sA_a A253 (by decide +kernel)) (sF_a V254)
                    have K271 : sA [7] M64 M248 o0 := K244.trans (sA_a A253 (by decide +kernel))
                    have K272 : rC M248 o0 ((20 + v62).toNatClampNeg) := K245.same (sA_a A253 (by decide +kernel)) (sF_a V254)
                    clear z228 z229 z230 z232 z233 z234 z235 z236 z237 z238 z239 z240 z241
                    refine mv_iconst (v := 0) d_TrustDeskModel_fund_152 (by decide) ?_
                    refine mv_istore (lv' := [(6, .int 0), (5, .int v62), (4, .int v71), (3, .int (20 + v62)), (0, .ref o0), (1, .int x1), (2, .int x2)]) d_TrustDeskModel_fund_153 (by decide) rfl ?_
                    have L155_273 : ∀ (k : Nat) (i6_273 : Int32) (T_273 : tm_H) (M_273 : mj_M) (n_273 : Nat), tm_I tm_FT (tm_in w_TrustDeskModel_fund_x) x9 T0 M0 n0 T_273 M_273 n_273 → T_273 o0 = some (0, 13, 0) → 0 ≤ i6_273.toInt → rv M_273 o0 27 = rv M0 o0 27 → rv M_273 o0 32 = rv M0 o0 32 → rv M_273 o0 49 = rv M0 o0 49 → ra M_273 o0 6 (20 + v62).toNatClampNeg = ra M64 o0 6 (20 + v62).toNatClampNeg → ra M_273 o0 37 (v62).toNatClampNeg = -1 → ra M_273 o0 43 (v62).toNatClampNeg ≤ i6_273.toInt → ra M_273 o0 43 (v62).toNatClampNeg ≤ kc M64 o0 (20 * (20 + v62).toNatClampNeg) (i6_273.toInt).toNat → i6_273.toInt ≤ ra M64 o0 6 (20 + v62).toNatClampNeg → (rI M_273 o0) → (rP M_273 o0) → (rB M_273 o0 v62.toNatClampNeg) → (sA [7] M64 M_273 o0) → (rC M_273 o0 ((20 + v62).toNatClampNeg)) → 2147483647 - i6_273.toInt < (k : Int) → mj_V g l kY_TrustDeskModel_fund (d + 27) 155 [(6, .int i6_273), (5, .int v62), (4, .int v71), (3, .int (20 + v62)), (0, .ref o0), (1, .int x1), (2, .int x2)] [] M_273 n_273 0 0 (tm_Q tm_FT (tm_in w_TrustDeskModel_fund_x) x9 T0 M0 n0 (fun r _ M => ∃ v : Int32, r = some (.int v) ∧ rI M o0 ∧ (rC M o0 44) ∧ (rP M o0) ∧ (rB M o0 12) ∧ (rv M0 o0 32 ≤ rv M o0 32))) := by
                      intro k273
                      induction k273 with
                      | zero =>
                        intro i6_273 T_273 M_273 n_273 I_273 h_q0_273 iv0_273 iv1_273 iv2_273 iv3_273 iv4_273 iv5_273 iv6_273 iv7_273 iv8_273 kKR_273 kKP_273 kKB_273 kKY_273 kKC_273 hk273
                        have := mz_hi i6_273
                        have := kKR_273.1 15 _ _ rfl
                        have := kKR_273.1 16 _ _ rfl
                        have := kKR_273.1 19 _ _ rfl
                        omega
                      | succ k273 ih273 =>
                        intro i6_273 T_273 M_273 n_273 I_273 h_q0_273 iv0_273 iv1_273 iv2_273 iv3_273 iv4_273 iv5_273 iv6_273 iv7_273 iv8_273 kKR_273 kKP_273 kKB_273 kKY_273 kKC_273 hk273
                        have := kc_two (M := M64) (o := o0) (b := 20 * (20 + v62).toNatClampNeg) (n := i6_273.toInt.toNat)
                        refine mv_iload d_TrustDeskModel_fund_155 rfl ?_
                        refine mv_aload_n d_TrustDeskModel_fund_157 rfl rfl ?_
                        obtain ⟨a275, q274, t_a275⟩ := tm_atR I_273 h_q0_273 (k := 6) rfl
                        refine tr_getK q274 d_TrustDeskModel_fund_158 f_TrustDeskModel_23_13 ?_
                        refine mv_iload_n d_TrustDeskModel_fund_161 rfl rfl ?_
                        have b276 : (20 + v62 : Int32).toInt = (20 + v62.toInt) := mz_add2 (by decide) rfl (by have := kKR_273.1 15 _ _ rfl; have := kKR_273.1 16 _ _ rfl; have := kKR_273.1 19 _ _ rfl; omega) (by have := kKR_273.1 15 _ _ rfl; have := kKR_273.1 16 _ _ rfl; have := kKR_273.1 19 _ _ rfl; omega)
                        refine tr_ialdR (o := o0) (k := 6) I_273 q274 t_a275 (by decide) d_TrustDeskModel_fund_162 (vp_in_iff.mpr (by have := kKR_273.1 15 _ _ rfl; have := kKR_273.1 16 _ _ rfl; have := kKR_273.1 19 _ _ rfl; omega)) (fun v277 e278 => ?_)
                        have := kKR_273.a (k := 6) rfl ((20 + v62) : Int32).toNatClampNeg
                        have : v277.toInt = ra M_273 o0 6 (20 + v62).toNatClampNeg := e278
                        have := mz_hi i6_273
                        have := mz_hi v277
                        refine mv_icmp_geZ (tgt := 274) (a := i6_273.toInt) (b := v277.toInt) d_TrustDeskModel_fund_163 (by decide) rfl rfl (fun b279 => ?_) (fun b279 => ?_)
                        · refine mv_aload_n d_TrustDeskModel_fund_274 rfl rfl ?_
                          obtain ⟨a281, q280, t_a281⟩ := tm_atR I_273 h_q0_273 (k := 41) rfl
                          refine tr_getK q280 d_TrustDeskModel_fund_275 f_TrustDeskModel_92_13 ?_
                          refine mv_bipush (v := 12) d_TrustDeskModel_fund_278 (by decide) ?_
                          refine mv_iload d_TrustDeskModel_fund_280 rfl ?_
                          refine mv_imul d_TrustDeskModel_fund_282 ?_
                          refine mv_iload d_TrustDeskModel_fund_283 rfl ?_
                          refine mv_iadd d_TrustDeskModel_fund_285 ?_
                          refine mv_ldcw d_TrustDeskModel_fund_286 k_TrustDeskModel_432 ?_
                          have b282 : (12 * v62 : Int32).toInt = (12 * v62.toInt) := mz_mul2 (by decide) rfl (by have := kKR_273.1 15 _ _ rfl; have := kKR_273.1 16 _ _ rfl; have := kKR_273.1 19 _ _ rfl; omega) (by have := kKR_273.1 15 _ _ rfl; have := kKR_273.1 16 _ _ rfl; have := kKR_273.1 19 _ _ rfl; omega)
                          have b283 : ((12 * v62) + v62 : Int32).toInt = ((12 * v62.toInt) + v62.toInt) := mz_add2 b282 rfl (by have := kKR_273.1 15 _ _ rfl; have := kKR_273.1 16 _ _ rfl; have := kKR_273.1 19 _ _ rfl; omega) (by have := kKR_273.1 15 _ _ rfl; have := kKR_273.1 16 _ _ rfl; have := kKR_273.1 19 _ _ rfl; omega)
                          refine tr_iastR (k := 41) I_273 kKR_273 (I_273.up h_o0) q280 t_a281 (by decide) (by decide) (fun lo hi h => by cases h; exact (by decide)) (Or.inl (by decide)) d_TrustDeskModel_fund_289 (vp_in_iff.mpr (by have := kKR_273.1 15 _ _ rfl; have := kKR_273.1 16 _ _ rfl; have := kKR_273.1 19 _ _ rfl; omega)) (fun M284 I285 K286 R287 E288 A289 V290 => ?_)
                          have z291 := (V290 15)
                          have z292 := (V290 16)
                          have z293 := (V290 17)
                          have z294 := (V290 19)
                          have z295 := (V290 22)
                          have z296 := (V290 24)
                          have z297 := (V290 27)
                          have z298 := (V290 32)
                          have z299 := (V290 49)
                          have z300 := (A289 5 (by decide) rfl 44)
                          have z301 := (A289 6 (by decide) rfl 44)
                          have z302 := (A289 6 (by decide) rfl ((20 + v62).toNatClampNeg))
                          have z303 := (A289 43 (by decide) rfl v62.toNatClampNeg)
                          have z304 := (A289 37 (by decide) rfl v62.toNatClampNeg)
                          have K305 : sA [7] M64 M284 o0 := kKY_273.trans (sA_a A289 (by decide +kernel))
                          have K306 : rC M284 o0 ((20 + v62).toNatClampNeg) := kKC_273.same (sA_a A289 (by decide +kernel)) (sF_a V290)
                          have : kc M64 o0 (20 * (20 + v62).toNatClampNeg) i6_273.toInt.toNat ≤ 6 := by rw [show i6_273.toInt.toNat = (ra M_56 o0 6 44).toNat from by omega]; exact h88 (by omega)
                          refine mv_aload_n d_TrustDeskModel_fund_290 rfl rfl ?_
                          refine mv_dup d_TrustDeskModel_fund_291 rfl ?_
                          obtain ⟨v308, q307⟩ := tm_atI I285 h_q0_273 (k := 32) rfl
                          refine tr_getK q307 d_TrustDeskModel_fund_292 f_TrustDeskModel_415_13 ?_
                          have := R287.f (k := 32) q307 rfl
                          have := (tm_rv q307).symm.trans z298
                          have := tm_rv q307
                          refine mv_iconst (v := 1) d_TrustDeskModel_fund_295 (by decide) ?_
                          refine mv_iadd d_TrustDeskModel_fund_296 ?_
                          have b309 : (v308 + 1 : Int32).toInt = (v308.toInt + 1) := mz_add2 rfl (by decide) (by have := R287.1 15 _ _ rfl; have := R287.1 16 _ _ rfl; have := R287.1 19 _ _ rfl; omega) (by have := R287.1 15 _ _ rfl; have := R287.1 16 _ _ rfl; have := R287.1 19 _ _ rfl; omega)
                          refine tr_putR (k := 32) I285 R287 h_q0_273 rfl ⟨_, rfl⟩ (fun _ h => by cases h) rfl (fun lo hi h => by cases h; have := R287.1 15 _ _ rfl; have := R287.1 16 _ _ rfl; have := R287.1 19 _ _ rfl; exact ⟨by show (0 : Int) ≤ (v308 + 1).toInt; omega, by show (v308 + 1).toInt ≤ (12 : Int); omega⟩) (Or.inl (by decide)) d_TrustDeskModel_fund_297 p_TrustDeskModel_415_13 rfl rfl (fun M310 I311 q312 K313 R314 A315 V316 => ?_)
                          have z317 := (V316 15 (by decide)).trans z291
                          have z318 := (V316 16 (by decide)).trans z292
                          have z319 := (V316 17 (by decide)).trans z293
                          have z320 := (V316 19 (by decide)).trans z294
                          have z321 := (V316 22 (by decide)).trans z295
                          have z322 := (V316 24 (by decide)).trans z296
                          have z323 := (V316 27 (by decide)).trans z297
                          have z324 := (V316 49 (by decide)).trans z299
                          have z325 := (A315 5 (by decide) 44).trans z300
                          have z326 := (A315 6 (by decide) 44).trans z301
                          have z327 := (A315 6 (by decide) ((20 + v62).toNatClampNeg)).trans z302
                          have z328 := (A315 43 (by decide) v62.toNatClampNeg).trans z303
                          have z329 := (A315 37 (by decide) v62.toNatClampNeg).trans z304
                          have z330 : rv M310 o0 32 = (v308 + 1).toInt := tm_rv q312
                          have K331 : sA [7] M64 M310 o0 := K305.trans (sA_f A315 (by decide))
                          have K332 : rC M310 o0 44 := rC.fund K306 A315 V316 (by have := mz_nat9 (i := (20 + v62)) (by have := R287.1 15 _ _ rfl; have := R287.1 16 _ _ rfl; have := R287.1 19 _ _ rfl; omega); have := R287.1 15 _ _ rfl; have := R287.1 16 _ _ rfl; have := R287.1 19 _ _ rfl; omega) (by have := R287.1 15 _ _ rfl; have := R287.1 16 _ _ rfl; have := R287.1 19 _ _ rfl; omega) (by have := R287.1 15 _ _ rfl; have := R287.1 16 _ _ rfl; have := R287.1 19 _ _ rfl; omega) (by have := R287.1 15 _ _ rfl; have := R287.1 16 _ _ rfl; have := R287.1 19 _ _ rfl; omega)
                          have h333 := rPB.fund kKP_273 kKB_273 (by have := mz_nat9 (i := v62) (by have := R287.1 15 _ _ rfl; have := R287.1 16 _ _ rfl; have := R287.1 19 _ _ rfl; omega); have := R287.1 15 _ _ rfl; have := R287.1 16 _ _ rfl; have := R287.1 19 _ _ rfl; omega) E288 (by have := mz_nat9 (i := ((12 * v62) + v62)) (by have := R287.1 15 _ _ rfl; have := R287.1 16 _ _ rfl; have := R287.1 19 _ _ rfl; omega); have := R287.1 15 _ _ rfl; have := R287.1 16 _ _ rfl; have := R287.1 19 _ _ rfl; omega) A289 V290 A315 (by have := R287.1 15 _ _ rfl; have := R287.1 16 _ _ rfl; have := R287.1 19 _ _ rfl; omega) (by have := R287.1 15 _ _ rfl; have := R287.1 16 _ _ rfl; have := R287.1 19 _ _ rfl; omega) (by have := R287.1 15 _ _ rfl; have := R287.1 16 _ _ rfl; have := R287.1 19 _ _ rfl; omega) (by have := R287.1 15 _ _ rfl; have := R287.1 16 _ _ rfl; have := R287.1 19 _ _ rfl; omega)
                          have K334 : rP M310 o0 := h333.1
                          have K335 : rB M310 o0 12 := h333.2
                          clear z291 z292 z293 z295 z296 z297 z299 z300 z301 z302 z303 z304
                          refine mv_iload d_TrustDeskModel_fund_300 rfl ?_
                          exact mv_iret d_TrustDeskModel_fund_302 rfl (by first | rfl | decide) ⟨_, I311, _, rfl, R314, K332, K334, K335, (by have := R314.1 15 _ _ rfl; have := R314.1 16 _ _ rfl; have := R314.1 19 _ _ rfl; omega)⟩
                        · refine mv_bipush (v := 20) d_TrustDeskModel_fund_166 (by decide) ?_
                          refine mv_iload_n d_TrustDeskModel_fund_168 rfl rfl ?_
                          refine mv_imul d_TrustDeskModel_fund_169 ?_
                          refine mv_iload d_TrustDeskModel_fund_170 rfl ?_
                          refine mv_iadd d_TrustDeskModel_fund_172 ?_
                          refine mv_istore (lv' := [(7, .int ((20 * (20 + v62)) + i6_273)), (6, .int i6_273), (5, .int v62), (4, .int v71), (3, .int (20 + v62)), (0, .ref o0), (1, .int x1), (2, .int x2)]) d_TrustDeskModel_fund_173 (by decide) rfl ?_
                          refine mv_aload_n d_TrustDeskModel_fund_175 rfl rfl ?_
                          obtain ⟨a337, q336, t_a337⟩ := tm_atR I_273 h_q0_273 (k := 7) rfl
                          refine tr_getK q336 d_TrustDeskModel_fund_176 f_TrustDeskModel_26_13 ?_
                          refine mv_iload d_TrustDeskModel_fund_179 rfl ?_
                          have b338 : (20 + v62 : Int32).toInt = (20 + v62.toInt) := mz_add2 (by decide) rfl (by have := kKR_273.1 15 _ _ rfl; have := kKR_273.1 16 _ _ rfl; have := kKR_273.1 19 _ _ rfl; omega) (by have := kKR_273.1 15 _ _ rfl; have := kKR_273.1 16 _ _ rfl; have := kKR_273.1 19 _ _ rfl; omega)
                          have b339 : (20 * (20 + v62) : Int32).toInt = (20 * (20 + v62.toInt)) := mz_mul2 (by decide) b338 (by have := kKR_273.1 15 _ _ rfl; have := kKR_273.1 16 _ _ rfl; have := kKR_273.1 19 _ _ rfl; omega) (by have := kKR_273.1 15 _ _ rfl; have := kKR_273.1 16 _ _ rfl; have := kKR_273.1 19 _ _ rfl; omega)
                          have b340 : ((20 * (20 + v62)) + i6_273 : Int32).toInt = ((20 * (20 + v62.toInt)) + i6_273.toInt) := mz_add2 b339 rfl (by have := kKR_273.1 15 _ _ rfl; have := kKR_273.1 16 _ _ rfl; have := kKR_273.1 19 _ _ rfl; omega) (by have := kKR_273.1 15 _ _ rfl; have := kKR_273.1 16 _ _ rfl; have := kKR_273.1 19 _ _ rfl; omega)
                          refine tr_ialdR (o := o0) (k := 7) I_273 q336 t_a337 (by decide) d_TrustDeskModel_fund_181 (vp_in_iff.mpr (by have := kKR_273.1 15 _ _ rfl; have := kKR_273.1 16 _ _ rfl; have := kKR_273.1 19 _ _ rfl; omega)) (fun v341 e342 => ?_)
                          have h343 : ((20 * (20 + v62)) + i6_273).toNatClampNeg = 20 * (20 + v62).toNatClampNeg + i6_273.toInt.toNat := by have := mz_nat9 (i := ((20 * (20 + v62)) + i6_273)) (by have := kKR_273.1 15 _ _ rfl; have := kKR_273.1 16 _ _ rfl; have := kKR_273.1 19 _ _ rfl; omega); have := mz_nat9 (i := (20 + v62)) (by have := kKR_273.1 15 _ _ rfl; have := kKR_273.1 16 _ _ rfl; have := kKR_273.1 19 _ _ rfl; omega); have := kKR_273.1 15 _ _ rfl; have := kKR_273.1 16 _ _ rfl; have := kKR_273.1 19 _ _ rfl; omega
                          have : v341.toInt = ra M64 o0 7 (20 * (20 + v62).toNatClampNeg + i6_273.toInt.toNat) := by have e9 := kKY_273 7 rfl; rw [← e9, e342, h343]
                          refine mv_bipush (v := 7) d_TrustDeskModel_fund_182 (by decide) ?_
                          have := mz_hi v341
                          refine mv_icmp_neZ (tgt := 204) (a := v341.toInt) (b := 7) d_TrustDeskModel_fund_184 (by decide) rfl (by decide) (fun b344 => ?_) (fun b344 => ?_)
                          · refine mv_aload_n d_TrustDeskModel_fund_204 rfl rfl ?_
                            refine tr_getK (k := 7) q336 d_TrustDeskModel_fund_205 f_TrustDeskModel_26_13 ?_
                            refine mv_iload d_TrustDeskModel_fund_208 rfl ?_
                            have b345 : (20 + v62 : Int32).toInt = (20 + v62.toInt) := mz_add2 (by decide) rfl (by have := kKR_273.1 15 _ _ rfl; have := kKR_273.1 16 _ _ rfl; have := kKR_273.1 19 _ _ rfl; omega) (by have := kKR_273.1 15 _ _ rfl; have := kKR_273.1 16 _ _ rfl; have := kKR_273.1 19 _ _ rfl; omega)
                            have b346 : (20 * (20 + v62) : Int32).toInt = (20 * (20 + v62.toInt)) := mz_mul2 (by decide) b345 (by have := kKR_273.1 15 _ _ rfl; have := kKR_273.1 16 _ _ rfl; have := kKR_273.1 19 _ _ rfl; omega) (by have := kKR_273.1 15 _ _ rfl; have := kKR_273.1 16 _ _ rfl; have := kKR_273.1 19 _ _ rfl; omega)
                            have b347 : ((20 * (20 + v62)) + i6_273 : Int32).toInt = ((20 * (20 + v62.toInt)) + i6_273.toInt) := mz_add2 b346 rfl (by have := kKR_273.1 15 _ _ rfl; have := kKR_273.1 16 _ _ rfl; have := kKR_273.1 19 _ _ rfl; omega) (by have := kKR_273.1 15 _ _ rfl; have := kKR_273.1 16 _ _ rfl; have := kKR_273.1 19 _ _ rfl; omega)
                            refine tr_ialdR (o := o0) (k := 7) I_273 q336 t_a337 (by decide) d_TrustDeskModel_fund_210 (vp_in_iff.mpr (by have := kKR_273.1 15 _ _ rfl; have := kKR_273.1 16 _ _ rfl; have := kKR_273.1 19 _ _ rfl; omega)) (fun v348 e349 => ?_)
                            have h350 : ((20 * (20 + v62)) + i6_273).toNatClampNeg = 20 * (20 + v62).toNatClampNeg + i6_273.toInt.toNat := by have := mz_nat9 (i := ((20 * (20 + v62)) + i6_273)) (by have := kKR_273.1 15 _ _ rfl; have := kKR_273.1 16 _ _ rfl; have := kKR_273.1 19 _ _ rfl; omega); have := mz_nat9 (i := (20 + v62)) (by have := kKR_273.1 15 _ _ rfl; have := kKR_273.1 16 _ _ rfl; have := kKR_273.1 19 _ _ rfl; omega); have := kKR_273.1 15 _ _ rfl; have := kKR_273.1 16 _ _ rfl; have := kKR_273.1 19 _ _ rfl; omega
                            have : v348.toInt = ra M64 o0 7 (20 * (20 + v62).toNatClampNeg + i6_273.toInt.toNat) := by have e9 := kKY_273 7 rfl; rw [← e9, e349, h350]
                            refine mv_bipush (v := 9) d_TrustDeskModel_fund_211 (by decide) ?_
                            have := mz_hi v348
                            refine mv_icmp_neZ (tgt := 244) (a := v348.toInt) (b := 9) d_TrustDeskModel_fund_213 (by decide) rfl (by decide) (fun b351 => ?_) (fun b351 => ?_)
                            · refine mv_aload_n d_TrustDeskModel_fund_244 rfl rfl ?_
                              refine tr_getK (k := 7) q336 d_TrustDeskModel_fund_245 f_TrustDeskModel_26_13 ?_
                              refine mv_iload d_TrustDeskModel_fund_248 rfl ?_
                              have b352 : (20 + v62 : Int32).toInt = (20 + v62.toInt) := mz_add2 (by decide) rfl (by have := kKR_273.1 15 _ _ rfl; have := kKR_273.1 16 _ _ rfl; have := kKR_273.1 19 _ _ rfl; omega) (by have := kKR_273.1 15 _ _ rfl; have := kKR_273.1 16 _ _ rfl; have := kKR_273.1 19 _ _ rfl; omega)
                              have b353 : (20 * (20 + v62) : Int32).toInt = (20 * (20 + v62.toInt)) := mz_mul2 (by decide) b352 (by have := kKR_273.1 15 _ _ rfl; have := kKR_273.1 16 _ _ rfl; have := kKR_273.1 19 _ _ rfl; omega) (by have := kKR_273.1 15 _ _ rfl; have := kKR_273.1 16 _ _ rfl; have := kKR_273.1 19 _ _ rfl; omega)
                              have b354 : ((20 * (20 + v62)) + i6_273 : Int32).toInt = ((20 * (20 + v62.toInt)) + i6_273.toInt) := mz_add2 b353 rfl (by have := kKR_273.1 15 _ _ rfl; have := kKR_273.1 16 _ _ rfl; have := kKR_273.1 19 _ _ rfl; omega) (by have := kKR_273.1 15 _ _ rfl; have := kKR_273.1 16 _ _ rfl; have := kKR_273.1 19 _ _ rfl; omega)
                              refine tr_ialdR (o := o0) (k := 7) I_273 q336 t_a337 (by decide) d_TrustDeskModel_fund_250 (vp_in_iff.mpr (by have := kKR_273.1 15 _ _ rfl; have := kKR_273.1 16 _ _ rfl; have := kKR_273.1 19 _ _ rfl; omega)) (fun v355 e356 => ?_)
                              have h357 : ((20 * (20 + v62)) + i6_273).toNatClampNeg = 20 * (20 + v62).toNatClampNeg + i6_273.toInt.toNat := by have := mz_nat9 (i := ((20 * (20 + v62)) + i6_273)) (by have := kKR_273.1 15 _ _ rfl; have := kKR_273.1 16 _ _ rfl; have := kKR_273.1 19 _ _ rfl; omega); have := mz_nat9 (i := (20 + v62)) (by have := kKR_273.1 15 _ _ rfl; have := kKR_273.1 16 _ _ rfl; have := kKR_273.1 19 _ _ rfl; omega); have := kKR_273.1 15 _ _ rfl; have := kKR_273.1 16 _ _ rfl; have := kKR_273.1 19 _ _ rfl; omega
                              have : v355.toInt = ra M64 o0 7 (20 * (20 + v62).toNatClampNeg + i6_273.toInt.toNat) := by have e9 := kKY_273 7 rfl; rw [← e9, e356, h357]
                              refine mv_bipush (v := 8) d_TrustDeskModel_fund_251 (by decide) ?_
                              have := mz_hi v355
                              refine mv_icmp_neZ (tgt := 268) (a := v355.toInt) (b := 8) d_TrustDeskModel_fund_253 (by decide) rfl (by decide) (fun b358 => ?_) (fun b358 => ?_)
                              · refine mv_iinc (v := (i6_273 + 1)) (lv' := [(6, .int (i6_273 + 1)), (7, .int ((20 * (20 + v62)) + i6_273)), (5, .int v62), (4, .int v71), (3, .int (20 + v62)), (0, .ref o0), (1, .int x1), (2, .int x2)]) d_TrustDeskModel_fund_268 rfl rfl (by decide) rfl ?_
                                refine mv_goto (tgt := 155) d_TrustDeskModel_fund_271 (by decide) ?_
                                have b359 : (i6_273 + 1 : Int32).toInt = (i6_273.toInt + 1) := mz_add2 rfl (by decide) (by have := kKR_273.1 15 _ _ rfl; have := kKR_273.1 16 _ _ rfl; have := kKR_273.1 19 _ _ rfl; omega) (by have := kKR_273.1 15 _ _ rfl; have := kKR_273.1 16 _ _ rfl; have := kKR_273.1 19 _ _ rfl; omega)
                                refine mv_locals (lv' := [(6, .int (i6_273 + 1)), (5, .int v62), (4, .int v71), (3, .int (20 + v62)), (0, .ref o0), (1, .int x1), (2, .int x2)]) (by intro q hq; simp only [List.mem_cons, List.not_mem_nil, or_false] at hq; rcases hq with rfl | rfl | rfl | rfl | rfl | rfl | rfl <;> rfl) ?_
                                have b360 : (i6_273 + 1).toInt = i6_273.toInt + 1 := mz_addn 1 1 (by decide) (by have := mz_lo i6_273; omega) (by have := mz_hi i6_273; omega)
                                exact (ih273 (i6_273 + 1) T_273 M_273 n_273 I_273 h_q0_273 (by have := kKR_273.1 15 _ _ rfl; have := kKR_273.1 16 _ _ rfl; have := kKR_273.1 19 _ _ rfl; first | omega | decide | exact fun h9 => absurd (by decide) h9) (by have := kKR_273.1 15 _ _ rfl; have := kKR_273.1 16 _ _ rfl; have := kKR_273.1 19 _ _ rfl; first | omega | decide | exact fun h9 => absurd (by decide) h9) (by have := kKR_273.1 15 _ _ rfl; have := kKR_273.1 16 _ _ rfl; have := kKR_273.1 19 _ _ rfl; first | omega | decide | exact fun h9 => absurd (by decide) h9) (by have := kKR_273.1 15 _ _ rfl; have := kKR_273.1 16 _ _ rfl; have := kKR_273.1 19 _ _ rfl; first | omega | decide | exact fun h9 => absurd (by decide) h9) (by have := kKR_273.1 15 _ _ rfl; have := kKR_273.1 16 _ _ rfl; have := kKR_273.1 19 _ _ rfl; first | omega | decide | exact fun h9 => absurd (by decide) h9) (by have := kKR_273.1 15 _ _ rfl; have := kKR_273.1 16 _ _ rfl; have := kKR_273.1 19 _ _ rfl; first | omega | decide | exact fun h9 => absurd (by decide) h9) (by have := kKR_273.1 15 _ _ rfl; have := kKR_273.1 16 _ _ rfl; have := kKR_273.1 19 _ _ rfl; first | omega | decide | exact fun h9 => absurd (by decide) h9) (by rw [show (i6_273 + 1 : Int32).toInt.toNat = i6_273.toInt.toNat + 1 from by omega]; have := kKR_273.1 15 _ _ rfl; have := kKR_273.1 16 _ _ rfl; have := kKR_273.1 19 _ _ rfl; omega) (by have := kKR_273.1 15 _ _ rfl; have := kKR_273.1 16 _ _ rfl; have := kKR_273.1 19 _ _ rfl; first | omega | decide | exact fun h9 => absurd (by decide) h9) kKR_273 kKP_273 kKB_273 kKY_273 kKC_273 (by have := kKR_273.1 15 _ _ rfl; have := kKR_273.1 16 _ _ rfl; have := kKR_273.1 19 _ _ rfl; omega))
                              · refine mv_aload_n d_TrustDeskModel_fund_256 rfl rfl ?_
                                refine mv_iload d_TrustDeskModel_fund_257 rfl ?_
                                refine mv_iload_n d_TrustDeskModel_fund_259 rfl rfl ?_
                                refine mv_iload d_TrustDeskModel_fund_260 rfl ?_
                                refine mv_iconst (v := 0) d_TrustDeskModel_fund_262 (by decide) ?_
                                refine mv_iconst (v := 0) d_TrustDeskModel_fund_263 (by decide) ?_
                                refine mv_iconst (v := (-1)) d_TrustDeskModel_fund_264 (by decide) ?_
                                obtain ⟨_, b367, -⟩ := I_273.1 _ _ h_q0_273
                                have b368 : (20 + v62 : Int32).toInt = (20 + v62.toInt) := mz_add2 (by decide) rfl (by have := kKR_273.1 15 _ _ rfl; have := kKR_273.1 16 _ _ rfl; have := kKR_273.1 19 _ _ rfl; omega) (by have := kKR_273.1 15 _ _ rfl; have := kKR_273.1 16 _ _ rfl; have := kKR_273.1 19 _ _ rfl; omega)
                                have b369 : (20 + v62 : Int32).toInt = (20 + v62.toInt) := mz_add2 (by decide) rfl (by have := kKR_273.1 15 _ _ rfl; have := kKR_273.1 16 _ _ rfl; have := kKR_273.1 19 _ _ rfl; omega) (by have := kKR_273.1 15 _ _ rfl; have := kKR_273.1 16 _ _ rfl; have := kKR_273.1 19 _ _ rfl; omega)
                                have b370 : (20 * (20 + v62) : Int32).toInt = (20 * (20 + v62.toInt)) := mz_mul2 (by decide) b369 (by have := kKR_273.1 15 _ _ rfl; have := kKR_273.1 16 _ _ rfl; have := kKR_273.1 19 _ _ rfl; omega) (by have := kKR_273.1 15 _ _ rfl; have := kKR_273.1 16 _ _ rfl; have := kKR_273.1 19 _ _ rfl; omega)
                                have b371 : ((20 * (20 + v62)) + i6_273 : Int32).toInt = ((20 * (20 + v62.toInt)) + i6_273.toInt) := mz_add2 b370 rfl (by have := kKR_273.1 15 _ _ rfl; have := kKR_273.1 16 _ _ rfl; have := kKR_273.1 19 _ _ rfl; omega) (by have := kKR_273.1 15 _ _ rfl; have := kKR_273.1 16 _ _ rfl; have := kKR_273.1 19 _ _ rfl; omega)
                                have : (0 : Int32).toInt = 0 := by decide
                                have : (0 : Int32).toInt = 0 := by decide
                                have : ((-1) : Int32).toInt = (-1) := by decide
                                refine mv_callV (kc' := 0) (ks' := 0) (As := [.int v62, .int (20 + v62), .int ((20 * (20 + v62)) + i6_273), .int 0, .int 0, .int (-1)]) (st9 := [.int (-1), .int 0, .int 0, .int ((20 * (20 + v62)) + i6_273), .int (20 + v62), .int v62, .ref o0]) d_TrustDeskModel_fund_265 lV_TrustDeskModel_428 b367 rfl (tc_TrustDeskModel_addEnd_x (d := (d + 26)) (x9 := x9) (o0 := o0) (x1 := v62) (x2 := (20 + v62)) (x3 := ((20 * (20 + v62)) + i6_273)) (x4 := 0) (x5 := 0) (x6 := (-1)) h_q0_273 (by have := kKR_273.1 15 _ _ rfl; have := kKR_273.1 16 _ _ rfl; have := kKR_273.1 19 _ _ rfl; omega) (by have := kKR_273.1 15 _ _ rfl; have := kKR_273.1 16 _ _ rfl; have := kKR_273.1 19 _ _ rfl; omega) (by have := kKR_273.1 15 _ _ rfl; have := kKR_273.1 16 _ _ rfl; have := kKR_273.1 19 _ _ rfl; omega) kKR_273 (by have := kKR_273.1 15 _ _ rfl; have := kKR_273.1 16 _ _ rfl; have := kKR_273.1 19 _ _ rfl; omega) I_273.start) rfl (Nat.le_of_ble_eq_true rfl) (Nat.le_of_ble_eq_true rfl) (Nat.le_of_ble_eq_true rfl) (hst := rfl) (fun b361r M362 n363 b361 => ?_)
                                obtain ⟨T364, J365, rfl, R372, f373⟩ := b361
                                have I366 := I_273.call J365 (tm_sub (by decide)) (Or.inl rfl)
                                have t374 := J365.up h_q0_273
                                have z375 := (rv_c I_273 J365 (I_273.up h_o0) (k := 15) rfl)
                                have z376 := (rv_c I_273 J365 (I_273.up h_o0) (k := 16) rfl)
                                have z377 := (rv_c I_273 J365 (I_273.up h_o0) (k := 17) rfl)
                                have z378 := (rv_c I_273 J365 (I_273.up h_o0) (k := 19) rfl)
                                have z379 := (rv_c I_273 J365 (I_273.up h_o0) (k := 22) rfl)
                                have z380 := (rv_c I_273 J365 (I_273.up h_o0) (k := 24) rfl)
                                have z381 := (rv_c I_273 J365 (I_273.up h_o0) (k := 27) rfl)
                                have z382 := (rv_c I_273 J365 (I_273.up h_o0) (k := 32) rfl)
                                have z383 := (rv_c I_273 J365 (I_273.up h_o0) (k := 49) rfl)
                                have z384 := (ra_call I_273 J365 (I_273.up h_o0) (k := 5) rfl rfl rfl 44)
                                have z385 := (ra_call I_273 J365 (I_273.up h_o0) (k := 6) rfl rfl rfl 44)
                                have z386 := (ra_call I_273 J365 (I_273.up h_o0) (k := 6) rfl rfl rfl ((20 + v62).toNatClampNeg))
                                have z387 := (ra_call I_273 J365 (I_273.up h_o0) (k := 37) rfl rfl rfl v62.toNatClampNeg)
                                have K388 : rP M362 o0 := kKP_273.same (sA_c I_273 J365 (I_273.up h_o0) (by decide +kernel)) (sF_c I_273 J365 (I_273.up h_o0) (by decide +kernel))
                                have K389 : rB M362 o0 v62.toNatClampNeg := kKB_273.add f373 (sA_c I_273 J365 (I_273.up h_o0) (by decide)) (sF_c I_273 J365 (I_273.up h_o0) (by decide)) (by have := mz_nat9 (i := v62) (by have := kKR_273.1 15 _ _ rfl; have := kKR_273.1 16 _ _ rfl; have := kKR_273.1 19 _ _ rfl; omega); have := kKR_273.1 15 _ _ rfl; have := kKR_273.1 16 _ _ rfl; have := kKR_273.1 19 _ _ rfl; omega)
                                have K390 : sA [7] M64 M362 o0 := kKY_273.trans (sA_c I_273 J365 (I_273.up h_o0) (by decide +kernel))
                                have K391 : rC M362 o0 ((20 + v62).toNatClampNeg) := kKC_273.add kKR_273 f373 (by have := mz_nat9 (i := v62) (by have := kKR_273.1 15 _ _ rfl; have := kKR_273.1 16 _ _ rfl; have := kKR_273.1 19 _ _ rfl; omega); have := kKR_273.1 15 _ _ rfl; have := kKR_273.1 16 _ _ rfl; have := kKR_273.1 19 _ _ rfl; omega) i6_273.toInt.toNat (by have := kKR_273.1 15 _ _ rfl; have := kKR_273.1 16 _ _ rfl; have := kKR_273.1 19 _ _ rfl; omega) (by have := mz_nat9 (i := i6_273) (by have := kKR_273.1 15 _ _ rfl; have := kKR_273.1 16 _ _ rfl; have := kKR_273.1 19 _ _ rfl; omega); have := kKR_273.1 15 _ _ rfl; have := kKR_273.1 16 _ _ rfl; have := kKR_273.1 19 _ _ rfl; omega) (by rw [show ((20 * (20 + v62)) + i6_273).toInt.toNat = ((20 * (20 + v62)) + i6_273).toNatClampNeg from by have := mz_nat9 (i := ((20 * (20 + v62)) + i6_273)) (by have := kKR_273.1 15 _ _ rfl; have := kKR_273.1 16 _ _ rfl; have := kKR_273.1 19 _ _ rfl; omega); have := kKR_273.1 15 _ _ rfl; have := kKR_273.1 16 _ _ rfl; have := kKR_273.1 19 _ _ rfl; omega]; omega) (sA_c I_273 J365 (I_273.up h_o0) (by decide)) (sF_c I_273 J365 (I_273.up h_o0) (by decide))
                                have := f373.2.2 v62.toNatClampNeg
                                rw [if_pos rfl] at this
                                have q392 := J365.keep h_q0_273 (by decide) q274
                                have t393 := J365.up t_a275
                                have q394 := J365.keep h_q0_273 (by decide) q336
                                have t395 := J365.up t_a337
                                refine mv_iinc (v := (i6_273 + 1)) (lv' := [(6, .int (i6_273 + 1)), (7, .int ((20 * (20 + v62)) + i6_273)), (5, .int v62), (4, .int v71), (3, .int (20 + v62)), (0, .ref o0), (1, .int x1), (2, .int x2)]) d_TrustDeskModel_fund_268 rfl rfl (by decide) rfl ?_
                                refine mv_goto (tgt := 155) d_TrustDeskModel_fund_271 (by decide) ?_
                                have b396 : (i6_273 + 1 : Int32).toInt = (i6_273.toInt + 1) := mz_add2 rfl (by decide) (by have := R372.1 15 _ _ rfl; have := R372.1 16 _ _ rfl; have := R372.1 19 _ _ rfl; omega) (by have := R372.1 15 _ _ rfl; have := R372.1 16 _ _ rfl; have := R372.1 19 _ _ rfl; omega)
                                refine mv_locals (lv' := [(6, .int (i6_273 + 1)), (5, .int v62), (4, .int v71), (3, .int (20 + v62)), (0, .ref o0), (1, .int x1), (2, .int x2)]) (by intro q hq; simp only [List.mem_cons, List.not_mem_nil, or_false] at hq; rcases hq with rfl | rfl | rfl | rfl | rfl | rfl | rfl <;> rfl) ?_
                                have b397 : (i6_273 + 1).toInt = i6_273.toInt + 1 := mz_addn 1 1 (by decide) (by have := mz_lo i6_273; omega) (by have := mz_hi i6_273; omega)
                                exact (ih273 (i6_273 + 1) T364 M362 n363 I366 t374 (by have := R372.1 15 _ _ rfl; have := R372.1 16 _ _ rfl; have := R372.1 19 _ _ rfl; first | omega | decide | exact fun h9 => absurd (by decide) h9) (by have := R372.1 15 _ _ rfl; have := R372.1 16 _ _ rfl; have := R372.1 19 _ _ rfl; first | omega | decide | exact fun h9 => absurd (by decide) h9) (by have := R372.1 15 _ _ rfl; have := R372.1 16 _ _ rfl; have := R372.1 19 _ _ rfl; first | omega | decide | exact fun h9 => absurd (by decide) h9) (by have := R372.1 15 _ _ rfl; have := R372.1 16 _ _ rfl; have := R372.1 19 _ _ rfl; first | omega | decide | exact fun h9 => absurd (by decide) h9) (by have := R372.1 15 _ _ rfl; have := R372.1 16 _ _ rfl; have := R372.1 19 _ _ rfl; first | omega | decide | exact fun h9 => absurd (by decide) h9) (by have := R372.1 15 _ _ rfl; have := R372.1 16 _ _ rfl; have := R372.1 19 _ _ rfl; first | omega | decide | exact fun h9 => absurd (by decide) h9) (by have := R372.1 15 _ _ rfl; have := R372.1 16 _ _ rfl; have := R372.1 19 _ _ rfl; first | omega | decide | exact fun h9 => absurd (by decide) h9) (by rw [show (i6_273 + 1 : Int32).toInt.toNat = i6_273.toInt.toNat + 1 from by omega]; have := R372.1 15 _ _ rfl; have := R372.1 16 _ _ rfl; have := R372.1 19 _ _ rfl; omega) (by have := R372.1 15 _ _ rfl; have := R372.1 16 _ _ rfl; have := R372.1 19 _ _ rfl; first | omega | decide | exact fun h9 => absurd (by decide) h9) R372 K388 K389 K390 K391 (by have := R372.1 15 _ _ rfl; have := R372.1 16 _ _ rfl; have := R372.1 19 _ _ rfl; omega))
                            · refine mv_aload_n d_TrustDeskModel_fund_216 rfl rfl ?_
                              obtain ⟨a399, q398, t_a399⟩ := tm_atR I_273 h_q0_273 (k := 38) rfl
                              refine tr_getK q398 d_TrustDeskModel_fund_217 f_TrustDeskModel_82_13 ?_
                              refine mv_iload d_TrustDeskModel_fund_220 rfl ?_
                              refine mv_aload_n d_TrustDeskModel_fund_222 rfl rfl ?_
                              obtain ⟨a401, q400, t_a401⟩ := tm_atR I_273 h_q0_273 (k := 8) rfl
                              refine tr_getK q400 d_TrustDeskModel_fund_223 f_TrustDeskModel_29_13 ?_
                              refine mv_iload d_TrustDeskModel_fund_226 rfl ?_
                              have b402 : (20 + v62 : Int32).toInt = (20 + v62.toInt) := mz_add2 (by decide) rfl (by have := kKR_273.1 15 _ _ rfl; have := kKR_273.1 16 _ _ rfl; have := kKR_273.1 19 _ _ rfl; omega) (by have := kKR_273.1 15 _ _ rfl; have := kKR_273.1 16 _ _ rfl; have := kKR_273.1 19 _ _ rfl; omega)
                              have b403 : (20 * (20 + v62) : Int32).toInt = (20 * (20 + v62.toInt)) := mz_mul2 (by decide) b402 (by have := kKR_273.1 15 _ _ rfl; have := kKR_273.1 16 _ _ rfl; have := kKR_273.1 19 _ _ rfl; omega) (by have := kKR_273.1 15 _ _ rfl; have := kKR_273.1 16 _ _ rfl; have := kKR_273.1 19 _ _ rfl; omega)
                              have b404 : ((20 * (20 + v62)) + i6_273 : Int32).toInt = ((20 * (20 + v62.toInt)) + i6_273.toInt) := mz_add2 b403 rfl (by have := kKR_273.1 15 _ _ rfl; have := kKR_273.1 16 _ _ rfl; have := kKR_273.1 19 _ _ rfl; omega) (by have := kKR_273.1 15 _ _ rfl; have := kKR_273.1 16 _ _ rfl; have := kKR_273.1 19 _ _ rfl; omega)
                              refine tr_ialdR (o := o0) (k := 8) I_273 q400 t_a401 (by decide) d_TrustDeskModel_fund_228 (vp_in_iff.mpr (by have := kKR_273.1 15 _ _ rfl; have := kKR_273.1 16 _ _ rfl; have := kKR_273.1 19 _ _ rfl; omega)) (fun v405 e406 => ?_)
                              have := kKR_273.a (k := 8) rfl (((20 * (20 + v62)) + i6_273) : Int32).toNatClampNeg
                              refine tr_iastR (k := 38) I_273 kKR_273 (I_273.up h_o0) q398 t_a399 (by decide) (by decide) (fun lo hi h => by cases h) (Or.inl (by decide)) d_TrustDeskModel_fund_229 (vp_in_iff.mpr (by have := kKR_273.1 15 _ _ rfl; have := kKR_273.1 16 _ _ rfl; have := kKR_273.1 19 _ _ rfl; omega)) (fun M407 I408 K409 R410 E411 A412 V413 => ?_)
                              have z414 := (V413 15)
                              have z415 := (V413 16)
                              have z416 := (V413 17)
                              have z417 := (V413 19)
                              have z418 := (V413 22)
                              have z419 := (V413 24)
                              have z420 := (V413 27)
                              have z421 := (V413 32)
                              have z422 := (V413 49)
                              have z423 := (A412 5 (by decide) rfl 44)
                              have z424 := (A412 6 (by decide) rfl 44)
                              have z425 := (A412 6 (by decide) rfl ((20 + v62).toNatClampNeg))
                              have z426 := (A412 43 (by decide) rfl v62.toNatClampNeg)
                              have z427 := (A412 37 (by decide) rfl v62.toNatClampNeg)
                              have K428 : rP M407 o0 := kKP_273.same (sA_a A412 (by decide +kernel)) (sF_a V413)
                              have K429 : rB M407 o0 v62.toNatClampNeg := kKB_273.same (sA_a A412 (by decide +kernel)) (sF_a V413)
                              have K430 : sA [7] M64 M407 o0 := kKY_273.trans (sA_a A412 (by decide +kernel))
                              have K431 : rC M407 o0 ((20 + v62).toNatClampNeg) := kKC_273.same (sA_a A412 (by decide +kernel)) (sF_a V413)
                              refine mv_aload_n d_TrustDeskModel_fund_230 rfl rfl ?_
                              obtain ⟨a433, q432, t_a433⟩ := tm_atR I408 h_q0_273 (k := 39) rfl
                              refine tr_getK q432 d_TrustDeskModel_fund_231 f_TrustDeskModel_85_13 ?_
                              refine mv_iload d_TrustDeskModel_fund_234 rfl ?_
                              refine mv_aload_n d_TrustDeskModel_fund_236 rfl rfl ?_
                              obtain ⟨a435, q434, t_a435⟩ := tm_atR I408 h_q0_273 (k := 9) rfl
                              refine tr_getK q434 d_TrustDeskModel_fund_237 f_TrustDeskModel_32_13 ?_
                              refine mv_iload d_TrustDeskModel_fund_240 rfl ?_
                              have b436 : (20 + v62 : Int32).toInt = (20 + v62.toInt) := mz_add2 (by decide) rfl (by have := R410.1 15 _ _ rfl; have := R410.1 16 _ _ rfl; have := R410.1 19 _ _ rfl; omega) (by have := R410.1 15 _ _ rfl; have := R410.1 16 _ _ rfl; have := R410.1 19 _ _ rfl; omega)
                              have b437 : (20 * (20 + v62) : Int32).toInt = (20 * (20 + v62.toInt)) := mz_mul2 (by decide) b436 (by have := R410.1 15 _ _ rfl; have := R410.1 16 _ _ rfl; have := R410.1 19 _ _ rfl; omega) (by have := R410.1 15 _ _ rfl; have := R410.1 16 _ _ rfl; have := R410.1 19 _ _ rfl; omega)
                              have b438 : ((20 * (20 + v62)) + i6_273 : Int32).toInt = ((20 * (20 + v62.toInt)) + i6_273.toInt) := mz_add2 b437 rfl (by have := R410.1 15 _ _ rfl; have := R410.1 16 _ _ rfl; have := R410.1 19 _ _ rfl; omega) (by have := R410.1 15 _ _ rfl; have := R410.1 16 _ _ rfl; have := R410.1 19 _ _ rfl; omega)
                              refine tr_ialdR (o := o0) (k := 9) I408 q434 t_a435 (by decide) d_TrustDeskModel_fund_242 (vp_in_iff.mpr (by have := R410.1 15 _ _ rfl; have := R410.1 16 _ _ rfl; have := R410.1 19 _ _ rfl; omega)) (fun v439 e440 => ?_)
                              refine tr_iastR (k := 39) I408 R410 (I408.up h_o0) q432 t_a433 (by decide) (by decide) (fun lo hi h => by cases h) (Or.inl (by decide)) d_TrustDeskModel_fund_243 (vp_in_iff.mpr (by have := R410.1 15 _ _ rfl; have := R410.1 16 _ _ rfl; have := R410.1 19 _ _ rfl; omega)) (fun M441 I442 K443 R444 E445 A446 V447 => ?_)
                              have z448 := (V447 15).trans z414
                              have z449 := (V447 16).trans z415
                              have z450 := (V447 17).trans z416
                              have z451 := (V447 19).trans z417
                              have z452 := (V447 22).trans z418
                              have z453 := (V447 24).trans z419
                              have z454 := (V447 27).trans z420
                              have z455 := (V447 32).trans z421
                              have z456 := (V447 49).trans z422
                              have z457 := (A446 5 (by decide) rfl 44).trans z423
                              have z458 := (A446 6 (by decide) rfl 44).trans z424
                              have z459 := (A446 6 (by decide) rfl ((20 + v62).toNatClampNeg)).trans z425
                              have z460 := (A446 43 (by decide) rfl v62.toNatClampNeg).trans z426
                              have z461 := (A446 37 (by decide) rfl v62.toNatClampNeg).trans z427
                              have K462 : rP M441 o0 := K428.same (sA_a A446 (by decide +kernel)) (sF_a V447)
                              have K463 : rB M441 o0 v62.toNatClampNeg := K429.same (sA_a A446 (by decide +kernel)) (sF_a V447)
                              have K464 : sA [7] M64 M441 o0 := K430.trans (sA_a A446 (by decide +kernel))
                              have K465 : rC M441 o0 ((20 + v62).toNatClampNeg) := K431.same (sA_a A446 (by decide +kernel)) (sF_a V447)
                              clear z414 z415 z416 z418 z419 z420 z421 z422 z423 z424 z425 z426 z427
                              refine mv_aload_n d_TrustDeskModel_fund_244 rfl rfl ?_
                              refine tr_getK (k := 7) (K443 _ 13 7 _ (K409 _ 13 7 _ q336)) d_TrustDeskModel_fund_245 f_TrustDeskModel_26_13 ?_
                              refine mv_iload d_TrustDeskModel_fund_248 rfl ?_
                              have b466 : (20 + v62 : Int32).toInt = (20 + v62.toInt) := mz_add2 (by decide) rfl (by have := R444.1 15 _ _ rfl; have := R444.1 16 _ _ rfl; have := R444.1 19 _ _ rfl; omega) (by have := R444.1 15 _ _ rfl; have := R444.1 16 _ _ rfl; have := R444.1 19 _ _ rfl; omega)
                              have b467 : (20 * (20 + v62) : Int32).toInt = (20 * (20 + v62.toInt)) := mz_mul2 (by decide) b466 (by have := R444.1 15 _ _ rfl; have := R444.1 16 _ _ rfl; have := R444.1 19 _ _ rfl; omega) (by have := R444.1 15 _ _ rfl; have := R444.1 16 _ _ rfl; have := R444.1 19 _ _ rfl; omega)
                              have b468 : ((20 * (20 + v62)) + i6_273 : Int32).toInt = ((20 * (20 + v62.toInt)) + i6_273.toInt) := mz_add2 b467 rfl (by have := R444.1 15 _ _ rfl; have := R444.1 16 _ _ rfl; have := R444.1 19 _ _ rfl; omega) (by have := R444.1 15 _ _ rfl; have := R444.1 16 _ _ rfl; have := R444.1 19 _ _ rfl; omega)
                              refine tr_ialdR (o := o0) (k := 7) I442 (K443 _ 13 7 _ (K409 _ 13 7 _ q336)) t_a337 (by decide) d_TrustDeskModel_fund_250 (vp_in_iff.mpr (by have := R444.1 15 _ _ rfl; have := R444.1 16 _ _ rfl; have := R444.1 19 _ _ rfl; omega)) (fun v469 e470 => ?_)
                              have h471 : ((20 * (20 + v62)) + i6_273).toNatClampNeg = 20 * (20 + v62).toNatClampNeg + i6_273.toInt.toNat := by have := mz_nat9 (i := ((20 * (20 + v62)) + i6_273)) (by have := R444.1 15 _ _ rfl; have := R444.1 16 _ _ rfl; have := R444.1 19 _ _ rfl; omega); have := mz_nat9 (i := (20 + v62)) (by have := R444.1 15 _ _ rfl; have := R444.1 16 _ _ rfl; have := R444.1 19 _ _ rfl; omega); have := R444.1 15 _ _ rfl; have := R444.1 16 _ _ rfl; have := R444.1 19 _ _ rfl; omega
                              have : v469.toInt = ra M64 o0 7 (20 * (20 + v62).toNatClampNeg + i6_273.toInt.toNat) := by have e9 := K464 7 rfl; rw [← e9, e470, h471]
                              refine mv_bipush (v := 8) d_TrustDeskModel_fund_251 (by decide) ?_
                              have := mz_hi v469
                              refine mv_icmp_neZ (tgt := 268) (a := v469.toInt) (b := 8) d_TrustDeskModel_fund_253 (by decide) rfl (by decide) (fun b472 => ?_) (fun b472 => ?_)
                              · refine mv_iinc (v := (i6_273 + 1)) (lv' := [(6, .int (i6_273 + 1)), (7, .int ((20 * (20 + v62)) + i6_273)), (5, .int v62), (4, .int v71), (3, .int (20 + v62)), (0, .ref o0), (1, .int x1), (2, .int x2)]) d_TrustDeskModel_fund_268 rfl rfl (by decide) rfl ?_
                                refine mv_goto (tgt := 155) d_TrustDeskModel_fund_271 (by decide) ?_
                                have b473 : (i6_273 + 1 : Int32).toInt = (i6_273.toInt + 1) := mz_add2 rfl (by decide) (by have := R444.1 15 _ _ rfl; have := R444.1 16 _ _ rfl; have := R444.1 19 _ _ rfl; omega) (by have := R444.1 15 _ _ rfl; have := R444.1 16 _ _ rfl; have := R444.1 19 _ _ rfl; omega)
                                refine mv_locals (lv' := [(6, .int (i6_273 + 1)), (5, .int v62), (4, .int v71), (3, .int (20 + v62)), (0, .ref o0), (1, .int x1), (2, .int x2)]) (by intro q hq; simp only [List.mem_cons, List.not_mem_nil, or_false] at hq; rcases hq with rfl | rfl | rfl | rfl | rfl | rfl | rfl <;> rfl) ?_
                                have b474 : (i6_273 + 1).toInt = i6_273.toInt + 1 := mz_addn 1 1 (by decide) (by have := mz_lo i6_273; omega) (by have := mz_hi i6_273; omega)
                                exact (ih273 (i6_273 + 1) T_273 M441 n_273 I442 h_q0_273 (by have := R444.1 15 _ _ rfl; have := R444.1 16 _ _ rfl; have := R444.1 19 _ _ rfl; first | omega | decide | exact fun h9 => absurd (by decide) h9) (by have := R444.1 15 _ _ rfl; have := R444.1 16 _ _ rfl; have := R444.1 19 _ _ rfl; first | omega | decide | exact fun h9 => absurd (by decide) h9) (by have := R444.1 15 _ _ rfl; have := R444.1 16 _ _ rfl; have := R444.1 19 _ _ rfl; first | omega | decide | exact fun h9 => absurd (by decide) h9) (by have := R444.1 15 _ _ rfl; have := R444.1 16 _ _ rfl; have := R444.1 19 _ _ rfl; first | omega | decide | exact fun h9 => absurd (by decide) h9) (by have := R444.1 15 _ _ rfl; have := R444.1 16 _ _ rfl; have := R444.1 19 _ _ rfl; first | omega | decide | exact fun h9 => absurd (by decide) h9) (by have := R444.1 15 _ _ rfl; have := R444.1 16 _ _ rfl; have := R444.1 19 _ _ rfl; first | omega | decide | exact fun h9 => absurd (by decide) h9) (by have := R444.1 15 _ _ rfl; have := R444.1 16 _ _ rfl; have := R444.1 19 _ _ rfl; first | omega | decide | exact fun h9 => absurd (by decide) h9) (by rw [show (i6_273 + 1 : Int32).toInt.toNat = i6_273.toInt.toNat + 1 from by omega]; have := R444.1 15 _ _ rfl; have := R444.1 16 _ _ rfl; have := R444.1 19 _ _ rfl; omega) (by have := R444.1 15 _ _ rfl; have := R444.1 16 _ _ rfl; have := R444.1 19 _ _ rfl; first | omega | decide | exact fun h9 => absurd (by decide) h9) R444 K462 K463 K464 K465 (by have := R444.1 15 _ _ rfl; have := R444.1 16 _ _ rfl; have := R444.1 19 _ _ rfl; omega))
                              · refine mv_aload_n d_TrustDeskModel_fund_256 rfl rfl ?_
                                refine mv_iload d_TrustDeskModel_fund_257 rfl ?_
                                refine mv_iload_n d_TrustDeskModel_fund_259 rfl rfl ?_
                                refine mv_iload d_TrustDeskModel_fund_260 rfl ?_
                                refine mv_iconst (v := 0) d_TrustDeskModel_fund_262 (by decide) ?_
                                refine mv_iconst (v := 0) d_TrustDeskModel_fund_263 (by decide) ?_
                                refine mv_iconst (v := (-1)) d_TrustDeskModel_fund_264 (by decide) ?_
                                obtain ⟨_, b481, -⟩ := I442.1 _ _ h_q0_273
                                have b482 : (20 + v62 : Int32).toInt = (20 + v62.toInt) := mz_add2 (by decide) rfl (by have := R444.1 15 _ _ rfl; have := R444.1 16 _ _ rfl; have := R444.1 19 _ _ rfl; omega) (by have := R444.1 15 _ _ rfl; have := R444.1 16 _ _ rfl; have := R444.1 19 _ _ rfl; omega)
                                have b483 : (20 + v62 : Int32).toInt = (20 + v62.toInt) := mz_add2 (by decide) rfl (by have := R444.1 15 _ _ rfl; have := R444.1 16 _ _ rfl; have := R444.1 19 _ _ rfl; omega) (by have := R444.1 15 _ _ rfl; have := R444.1 16 _ _ rfl; have := R444.1 19 _ _ rfl; omega)
                                have b484 : (20 * (20 + v62) : Int32).toInt = (20 * (20 + v62.toInt)) := mz_mul2 (by decide) b483 (by have := R444.1 15 _ _ rfl; have := R444.1 16 _ _ rfl; have := R444.1 19 _ _ rfl; omega) (by have := R444.1 15 _ _ rfl; have := R444.1 16 _ _ rfl; have := R444.1 19 _ _ rfl; omega)
                                have b485 : ((20 * (20 + v62)) + i6_273 : Int32).toInt = ((20 * (20 + v62.toInt)) + i6_273.toInt) := mz_add2 b484 rfl (by have := R444.1 15 _ _ rfl; have := R444.1 16 _ _ rfl; have := R444.1 19 _ _ rfl; omega) (by have := R444.1 15 _ _ rfl; have := R444.1 16 _ _ rfl; have := R444.1 19 _ _ rfl; omega)
                                have : (0 : Int32).toInt = 0 := by decide
                                have : (0 : Int32).toInt = 0 := by decide
                                have : ((-1) : Int32).toInt = (-1) := by decide
                                refine mv_callV (kc' := 0) (ks' := 0) (As := [.int v62, .int (20 + v62), .int ((20 * (20 + v62)) + i6_273), .int 0, .int 0, .int (-1)]) (st9 := [.int (-1), .int 0, .int 0, .int ((20 * (20 + v62)) + i6_273), .int (20 + v62), .int v62, .ref o0]) d_TrustDeskModel_fund_265 lV_TrustDeskModel_428 b481 rfl (tc_TrustDeskModel_addEnd_x (d := (d + 26)) (x9 := x9) (o0 := o0) (x1 := v62) (x2 := (20 + v62)) (x3 := ((20 * (20 + v62)) + i6_273)) (x4 := 0) (x5 := 0) (x6 := (-1)) h_q0_273 (by have := R444.1 15 _ _ rfl; have := R444.1 16 _ _ rfl; have := R444.1 19 _ _ rfl; omega) (by have := R444.1 15 _ _ rfl; have := R444.1 16 _ _ rfl; have := R444.1 19 _ _ rfl; omega) (by have := R444.1 15 _ _ rfl; have := R444.1 16 _ _ rfl; have := R444.1 19 _ _ rfl; omega) R444 (by have := R444.1 15 _ _ rfl; have := R444.1 16 _ _ rfl; have := R444.1 19 _ _ rfl; omega) I442.start) rfl (Nat.le_of_ble_eq_true rfl) (Nat.le_of_ble_eq_true rfl) (Nat.le_of_ble_eq_true rfl) (hst := rfl) (fun b475r M476 n477 b475 => ?_)
                                obtain ⟨T478, J479, rfl, R486, f487⟩ := b475
                                have I480 := I442.call J479 (tm_sub (by decide)) (Or.inl rfl)
                                have t488 := J479.up h_q0_273
                                have z489 := (rv_c I442 J479 (I442.up h_o0) (k := 15) rfl).trans z448
                                have z490 := (rv_c I442 J479 (I442.up h_o0) (k := 16) rfl).trans z449
                                have z491 := (rv_c I442 J479 (I442.up h_o0) (k := 17) rfl).trans z450
                                have z492 := (rv_c I442 J479 (I442.up h_o0) (k := 19) rfl).trans z451
                                have z493 := (rv_c I442 J479 (I442.up h_o0) (k := 22) rfl).trans z452
                                have z494 := (rv_c I442 J479 (I442.up h_o0) (k := 24) rfl).trans z453
                                have z495 := (rv_c I442 J479 (I442.up h_o0) (k := 27) rfl).trans z454
                                have z496 := (rv_c I442 J479 (I442.up h_o0) (k := 32) rfl).trans z455
                                have z497 := (rv_c I442 J479 (I442.up h_o0) (k := 49) rfl).trans z456
                                have z498 := (ra_call I442 J479 (I442.up h_o0) (k := 5) rfl rfl rfl 44).trans z457
                                have z499 := (ra_call I442 J479 (I442.up h_o0) (k := 6) rfl rfl rfl 44).trans z458
                                have z500 := (ra_call I442 J479 (I442.up h_o0) (k := 6) rfl rfl rfl ((20 + v62).toNatClampNeg)).trans z459
                                have z501 := (ra_call I442 J479 (I442.up h_o0) (k := 37) rfl rfl rfl v62.toNatClampNeg).trans z461
                                have K502 : rP M476 o0 := K462.same (sA_c I442 J479 (I442.up h_o0) (by decide +kernel)) (sF_c I442 J479 (I442.up h_o0) (by decide +kernel))
                                have K503 : rB M476 o0 v62.toNatClampNeg := K463.add f487 (sA_c I442 J479 (I442.up h_o0) (by decide)) (sF_c I442 J479 (I442.up h_o0) (by decide)) (by have := mz_nat9 (i := v62) (by have := R444.1 15 _ _ rfl; have := R444.1 16 _ _ rfl; have := R444.1 19 _ _ rfl; omega); have := R444.1 15 _ _ rfl; have := R444.1 16 _ _ rfl; have := R444.1 19 _ _ rfl; omega)
                                have K504 : sA [7] M64 M476 o0 := K464.trans (sA_c I442 J479 (I442.up h_o0) (by decide +kernel))
                                have K505 : rC M476 o0 ((20 + v62).toNatClampNeg) := K465.add R444 f487 (by have := mz_nat9 (i := v62) (by have := R444.1 15 _ _ rfl; have := R444.1 16 _ _ rfl; have := R444.1 19 _ _ rfl; omega); have := R444.1 15 _ _ rfl; have := R444.1 16 _ _ rfl; have := R444.1 19 _ _ rfl; omega) i6_273.toInt.toNat (by have := R444.1 15 _ _ rfl; have := R444.1 16 _ _ rfl; have := R444.1 19 _ _ rfl; omega) (by have := mz_nat9 (i := i6_273) (by have := R444.1 15 _ _ rfl; have := R444.1 16 _ _ rfl; have := R444.1 19 _ _ rfl; omega); have := R444.1 15 _ _ rfl; have := R444.1 16 _ _ rfl; have := R444.1 19 _ _ rfl; omega) (by rw [show ((20 * (20 + v62)) + i6_273).toInt.toNat = ((20 * (20 + v62)) + i6_273).toNatClampNeg from by have := mz_nat9 (i := ((20 * (20 + v62)) + i6_273)) (by have := R444.1 15 _ _ rfl; have := R444.1 16 _ _ rfl; have := R444.1 19 _ _ rfl; omega); have := R444.1 15 _ _ rfl; have := R444.1 16 _ _ rfl; have := R444.1 19 _ _ rfl; omega]; omega) (sA_c I442 J479 (I442.up h_o0) (by decide)) (sF_c I442 J479 (I442.up h_o0) (by decide))
                                have := f487.2.2 v62.toNatClampNeg
                                rw [if_pos rfl] at this
                                clear z448 z449 z450 z452 z453 z454 z455 z456 z457 z458 z459 z461
                                have q506 := J479.keep h_q0_273 (by decide) (K443 _ 13 6 _ (K409 _ 13 6 _ q274))
                                have t507 := J479.up t_a275
                                have q508 := J479.keep h_q0_273 (by decide) (K443 _ 13 7 _ (K409 _ 13 7 _ q336))
                                have t509 := J479.up t_a337
                                have q510 := J479.keep h_q0_273 (by decide) (K443 _ 13 38 _ (K409 _ 13 38 _ q398))
                                have t511 := J479.up t_a399
                                have q512 := J479.keep h_q0_273 (by decide) (K443 _ 13 8 _ (K409 _ 13 8 _ q400))
                                have t513 := J479.up t_a401
                                have q514 := J479.keep h_q0_273 (by decide) (K443 _ 13 39 _ q432)
                                have t515 := J479.up t_a433
                                have q516 := J479.keep h_q0_273 (by decide) (K443 _ 13 9 _ q434)
                                have t517 := J479.up t_a435
                                refine mv_iinc (v := (i6_273 + 1)) (lv' := [(6, .int (i6_273 + 1)), (7, .int ((20 * (20 + v62)) + i6_273)), (5, .int v62), (4, .int v71), (3, .int (20 + v62)), (0, .ref o0), (1, .int x1), (2, .int x2)]) d_TrustDeskModel_fund_268 rfl rfl (by decide) rfl ?_
                                refine mv_goto (tgt := 155) d_TrustDeskModel_fund_271 (by decide) ?_
                                have b518 : (i6_273 + 1 : Int32).toInt = (i6_273.toInt + 1) := mz_add2 rfl (by decide) (by have := R486.1 15 _ _ rfl; have := R486.1 16 _ _ rfl; have := R486.1 19 _ _ rfl; omega) (by have := R486.1 15 _ _ rfl; have := R486.1 16 _ _ rfl; have := R486.1 19 _ _ rfl; omega)
                                refine mv_locals (lv' := [(6, .int (i6_273 + 1)), (5, .int v62), (4, .int v71), (3, .int (20 + v62)), (0, .ref o0), (1, .int x1), (2, .int x2)]) (by intro q hq; simp only [List.mem_cons, List.not_mem_nil, or_false] at hq; rcases hq with rfl | rfl | rfl | rfl | rfl | rfl | rfl <;> rfl) ?_
                                have b519 : (i6_273 + 1).toInt = i6_273.toInt + 1 := mz_addn 1 1 (by decide) (by have := mz_lo i6_273; omega) (by have := mz_hi i6_273; omega)
                                exact (ih273 (i6_273 + 1) T478 M476 n477 I480 t488 (by have := R486.1 15 _ _ rfl; have := R486.1 16 _ _ rfl; have := R486.1 19 _ _ rfl; first | omega | decide | exact fun h9 => absurd (by decide) h9) (by have := R486.1 15 _ _ rfl; have := R486.1 16 _ _ rfl; have := R486.1 19 _ _ rfl; first | omega | decide | exact fun h9 => absurd (by decide) h9) (by have := R486.1 15 _ _ rfl; have := R486.1 16 _ _ rfl; have := R486.1 19 _ _ rfl; first | omega | decide | exact fun h9 => absurd (by decide) h9) (by have := R486.1 15 _ _ rfl; have := R486.1 16 _ _ rfl; have := R486.1 19 _ _ rfl; first | omega | decide | exact fun h9 => absurd (by decide) h9) (by have := R486.1 15 _ _ rfl; have := R486.1 16 _ _ rfl; have := R486.1 19 _ _ rfl; first | omega | decide | exact fun h9 => absurd (by decide) h9) (by have := R486.1 15 _ _ rfl; have := R486.1 16 _ _ rfl; have := R486.1 19 _ _ rfl; first | omega | decide | exact fun h9 => absurd (by decide) h9) (by have := R486.1 15 _ _ rfl; have := R486.1 16 _ _ rfl; have := R486.1 19 _ _ rfl; first | omega | decide | exact fun h9 => absurd (by decide) h9) (by rw [show (i6_273 + 1 : Int32).toInt.toNat = i6_273.toInt.toNat + 1 from by omega]; have := R486.1 15 _ _ rfl; have := R486.1 16 _ _ rfl; have := R486.1 19 _ _ rfl; omega) (by have := R486.1 15 _ _ rfl; have := R486.1 16 _ _ rfl; have := R486.1 19 _ _ rfl; first | omega | decide | exact fun h9 => absurd (by decide) h9) R486 K502 K503 K504 K505 (by have := R486.1 15 _ _ rfl; have := R486.1 16 _ _ rfl; have := R486.1 19 _ _ rfl; omega))
                          · refine mv_aload_n d_TrustDeskModel_fund_187 rfl rfl ?_
                            obtain ⟨a521, q520, t_a521⟩ := tm_atR I_273 h_q0_273 (k := 36) rfl
                            refine tr_getK q520 d_TrustDeskModel_fund_188 f_TrustDeskModel_76_13 ?_
                            refine mv_iload d_TrustDeskModel_fund_191 rfl ?_
                            refine mv_dup2_11 d_TrustDeskModel_fund_193 rfl rfl ?_
                            refine tr_ialdR (o := o0) (k := 36) I_273 q520 t_a521 (by decide) d_TrustDeskModel_fund_194 (vp_in_iff.mpr (by have := kKR_273.1 15 _ _ rfl; have := kKR_273.1 16 _ _ rfl; have := kKR_273.1 19 _ _ rfl; omega)) (fun v522 e523 => ?_)
                            refine mv_aload_n d_TrustDeskModel_fund_195 rfl rfl ?_
                            obtain ⟨a525, q524, t_a525⟩ := tm_atR I_273 h_q0_273 (k := 8) rfl
                            refine tr_getK q524 d_TrustDeskModel_fund_196 f_TrustDeskModel_29_13 ?_
                            refine mv_iload d_TrustDeskModel_fund_199 rfl ?_
                            have b526 : (20 + v62 : Int32).toInt = (20 + v62.toInt) := mz_add2 (by decide) rfl (by have := kKR_273.1 15 _ _ rfl; have := kKR_273.1 16 _ _ rfl; have := kKR_273.1 19 _ _ rfl; omega) (by have := kKR_273.1 15 _ _ rfl; have := kKR_273.1 16 _ _ rfl; have := kKR_273.1 19 _ _ rfl; omega)
                            have b527 : (20 * (20 + v62) : Int32).toInt = (20 * (20 + v62.toInt)) := mz_mul2 (by decide) b526 (by have := kKR_273.1 15 _ _ rfl; have := kKR_273.1 16 _ _ rfl; have := kKR_273.1 19 _ _ rfl; omega) (by have := kKR_273.1 15 _ _ rfl; have := kKR_273.1 16 _ _ rfl; have := kKR_273.1 19 _ _ rfl; omega)
                            have b528 : ((20 * (20 + v62)) + i6_273 : Int32).toInt = ((20 * (20 + v62.toInt)) + i6_273.toInt) := mz_add2 b527 rfl (by have := kKR_273.1 15 _ _ rfl; have := kKR_273.1 16 _ _ rfl; have := kKR_273.1 19 _ _ rfl; omega) (by have := kKR_273.1 15 _ _ rfl; have := kKR_273.1 16 _ _ rfl; have := kKR_273.1 19 _ _ rfl; omega)
                            refine tr_ialdR (o := o0) (k := 8) I_273 q524 t_a525 (by decide) d_TrustDeskModel_fund_201 (vp_in_iff.mpr (by have := kKR_273.1 15 _ _ rfl; have := kKR_273.1 16 _ _ rfl; have := kKR_273.1 19 _ _ rfl; omega)) (fun v529 e530 => ?_)
                            have := kKR_273.a (k := 8) rfl (((20 * (20 + v62)) + i6_273) : Int32).toNatClampNeg
                            refine mv_ior d_TrustDeskModel_fund_202 ?_
                            refine tr_iastR (k := 36) I_273 kKR_273 (I_273.up h_o0) q520 t_a521 (by decide) (by decide) (fun lo hi h => by cases h) (Or.inl (by decide)) d_TrustDeskModel_fund_203 (vp_in_iff.mpr (by have := kKR_273.1 15 _ _ rfl; have := kKR_273.1 16 _ _ rfl; have := kKR_273.1 19 _ _ rfl; omega)) (fun M531 I532 K533 R534 E535 A536 V537 => ?_)
                            have z538 := (V537 15)
                            have z539 := (V537 16)
                            have z540 := (V537 17)
                            have z541 := (V537 19)
                            have z542 := (V537 22)
                            have z543 := (V537 24)
                            have z544 := (V537 27)
                            have z545 := (V537 32)
                            have z546 := (V537 49)
                            have z547 := (A536 5 (by decide) rfl 44)
                            have z548 := (A536 6 (by decide) rfl 44)
                            have z549 := (A536 6 (by decide) rfl ((20 + v62).toNatClampNeg))
                            have z550 := (A536 43 (by decide) rfl v62.toNatClampNeg)
                            have z551 := (A536 37 (by decide) rfl v62.toNatClampNeg)
                            have K552 : rP M531 o0 := kKP_273.same (sA_a A536 (by decide +kernel)) (sF_a V537)
                            have K553 : rB M531 o0 v62.toNatClampNeg := kKB_273.same (sA_a A536 (by decide +kernel)) (sF_a V537)
                            have K554 : sA [7] M64 M531 o0 := kKY_273.trans (sA_a A536 (by decide +kernel))
                            have K555 : rC M531 o0 ((20 + v62).toNatClampNeg) := kKC_273.same (sA_a A536 (by decide +kernel)) (sF_a V537)
                            refine mv_aload_n d_TrustDeskModel_fund_204 rfl rfl ?_
                            refine tr_getK (k := 7) (K533 _ 13 7 _ q336) d_TrustDeskModel_fund_205 f_TrustDeskModel_26_13 ?_
                            refine mv_iload d_TrustDeskModel_fund_208 rfl ?_
                            have b556 : (20 + v62 : Int32).toInt = (20 + v62.toInt) := mz_add2 (by decide) rfl (by have := R534.1 15 _ _ rfl; have := R534.1 16 _ _ rfl; have := R534.1 19 _ _ rfl; omega) (by have := R534.1 15 _ _ rfl; have := R534.1 16 _ _ rfl; have := R534.1 19 _ _ rfl; omega)
                            have b557 : (20 * (20 + v62) : Int32).toInt = (20 * (20 + v62.toInt)) := mz_mul2 (by decide) b556 (by have := R534.1 15 _ _ rfl; have := R534.1 16 _ _ rfl; have := R534.1 19 _ _ rfl; omega) (by have := R534.1 15 _ _ rfl; have := R534.1 16 _ _ rfl; have := R534.1 19 _ _ rfl; omega)
                            have b558 : ((20 * (20 + v62)) + i6_273 : Int32).toInt = ((20 * (20 + v62.toInt)) + i6_273.toInt) := mz_add2 b557 rfl (by have := R534.1 15 _ _ rfl; have := R534.1 16 _ _ rfl; have := R534.1 19 _ _ rfl; omega) (by have := R534.1 15 _ _ rfl; have := R534.1 16 _ _ rfl; have := R534.1 19 _ _ rfl; omega)
                            refine tr_ialdR (o := o0) (k := 7) I532 (K533 _ 13 7 _ q336) t_a337 (by decide) d_TrustDeskModel_fund_210 (vp_in_iff.mpr (by have := R534.1 15 _ _ rfl; have := R534.1 16 _ _ rfl; have := R534.1 19 _ _ rfl; omega)) (fun v559 e560 => ?_)
                            have h561 : ((20 * (20 + v62)) + i6_273).toNatClampNeg = 20 * (20 + v62).toNatClampNeg + i6_273.toInt.toNat := by have := mz_nat9 (i := ((20 * (20 + v62)) + i6_273)) (by have := R534.1 15 _ _ rfl; have := R534.1 16 _ _ rfl; have := R534.1 19 _ _ rfl; omega); have := mz_nat9 (i := (20 + v62)) (by have := R534.1 15 _ _ rfl; have := R534.1 16 _ _ rfl; have := R534.1 19 _ _ rfl; omega); have := R534.1 15 _ _ rfl; have := R534.1 16 _ _ rfl; have := R534.1 19 _ _ rfl; omega
                            have : v559.toInt = ra M64 o0 7 (20 * (20 + v62).toNatClampNeg + i6_273.toInt.toNat) := by have e9 := K554 7 rfl; rw [← e9, e560, h561]
                            refine mv_bipush (v := 9) d_TrustDeskModel_fund_211 (by decide) ?_
                            have := mz_hi v559
                            refine mv_icmp_neZ (tgt := 244) (a := v559.toInt) (b := 9) d_TrustDeskModel_fund_213 (by decide) rfl (by decide) (fun b562 => ?_) (fun b562 => ?_)
                            · refine mv_aload_n d_TrustDeskModel_fund_244 rfl rfl ?_
                              refine tr_getK (k := 7) (K533 _ 13 7 _ q336) d_TrustDeskModel_fund_245 f_TrustDeskModel_26_13 ?_
                              refine mv_iload d_TrustDeskModel_fund_248 rfl ?_
                              have b563 : (20 + v62 : Int32).toInt = (20 + v62.toInt) := mz_add2 (by decide) rfl (by have := R534.1 15 _ _ rfl; have := R534.1 16 _ _ rfl; have := R534.1 19 _ _ rfl; omega) (by have := R534.1 15 _ _ rfl; have := R534.1 16 _ _ rfl; have := R534.1 19 _ _ rfl; omega)
                              have b564 : (20 * (20 + v62) : Int32).toInt = (20 * (20 + v62.toInt)) := mz_mul2 (by decide) b563 (by have := R534.1 15 _ _ rfl; have := R534.1 16 _ _ rfl; have := R534.1 19 _ _ rfl; omega) (by have := R534.1 15 _ _ rfl; have := R534.1 16 _ _ rfl; have := R534.1 19 _ _ rfl; omega)
                              have b565 : ((20 * (20 + v62)) + i6_273 : Int32).toInt = ((20 * (20 + v62.toInt)) + i6_273.toInt) := mz_add2 b564 rfl (by have := R534.1 15 _ _ rfl; have := R534.1 16 _ _ rfl; have := R534.1 19 _ _ rfl; omega) (by have := R534.1 15 _ _ rfl; have := R534.1 16 _ _ rfl; have := R534.1 19 _ _ rfl; omega)
                              refine tr_ialdR (o := o0) (k := 7) I532 (K533 _ 13 7 _ q336) t_a337 (by decide) d_TrustDeskModel_fund_250 (vp_in_iff.mpr (by have := R534.1 15 _ _ rfl; have := R534.1 16 _ _ rfl; have := R534.1 19 _ _ rfl; omega)) (fun v566 e567 => ?_)
                              have h568 : ((20 * (20 + v62)) + i6_273).toNatClampNeg = 20 * (20 + v62).toNatClampNeg + i6_273.toInt.toNat := by have := mz_nat9 (i := ((20 * (20 + v62)) + i6_273)) (by have := R534.1 15 _ _ rfl; have := R534.1 16 _ _ rfl; have := R534.1 19 _ _ rfl; omega); have := mz_nat9 (i := (20 + v62)) (by have := R534.1 15 _ _ rfl; have := R534.1 16 _ _ rfl; have := R534.1 19 _ _ rfl; omega); have := R534.1 15 _ _ rfl; have := R534.1 16 _ _ rfl; have := R534.1 19 _ _ rfl; omega
                              have : v566.toInt = ra M64 o0 7 (20 * (20 + v62).toNatClampNeg + i6_273.toInt.toNat) := by have e9 := K554 7 rfl; rw [← e9, e567, h568]
                              refine mv_bipush (v := 8) d_TrustDeskModel_fund_251 (by decide) ?_
                              have := mz_hi v566
                              refine mv_icmp_neZ (tgt := 268) (a := v566.toInt) (b := 8) d_TrustDeskModel_fund_253 (by decide) rfl (by decide) (fun b569 => ?_) (fun b569 => ?_)
                              · refine mv_iinc (v := (i6_273 + 1)) (lv' := [(6, .int (i6_273 + 1)), (7, .int ((20 * (20 + v62)) + i6_273)), (5, .int v62), (4, .int v71), (3, .int (20 + v62)), (0, .ref o0), (1, .int x1), (2, .int x2)]) d_TrustDeskModel_fund_268 rfl rfl (by decide) rfl ?_
                                refine mv_goto (tgt := 155) d_TrustDeskModel_fund_271 (by decide) ?_
                                have b570 : (i6_273 + 1 : Int32).toInt = (i6_273.toInt + 1) := mz_add2 rfl (by decide) (by have := R534.1 15 _ _ rfl; have := R534.1 16 _ _ rfl; have := R534.1 19 _ _ rfl; omega) (by have := R534.1 15 _ _ rfl; have := R534.1 16 _ _ rfl; have := R534.1 19 _ _ rfl; omega)
                                refine mv_locals (lv' := [(6, .int (i6_273 + 1)), (5, .int v62), (4, .int v71), (3, .int (20 + v62)), (0, .ref o0), (1, .int x1), (2, .int x2)]) (by intro q hq; simp only [List.mem_cons, List.not_mem_nil, or_false] at hq; rcases hq with rfl | rfl | rfl | rfl | rfl | rfl | rfl <;> rfl) ?_
                                have b571 : (i6_273 + 1).toInt = i6_273.toInt + 1 := mz_addn 1 1 (by decide) (by have := mz_lo i6_273; omega) (by have := mz_hi i6_273; omega)
                                exact (ih273 (i6_273 + 1) T_273 M531 n_273 I532 h_q0_273 (by have := R534.1 15 _ _ rfl; have := R534.1 16 _ _ rfl; have := R534.1 19 _ _ rfl; first | omega | decide | exact fun h9 => absurd (by decide) h9) (by have := R534.1 15 _ _ rfl; have := R534.1 16 _ _ rfl; have := R534.1 19 _ _ rfl; first | omega | decide | exact fun h9 => absurd (by decide) h9) (by have := R534.1 15 _ _ rfl; have := R534.1 16 _ _ rfl; have := R534.1 19 _ _ rfl; first | omega | decide | exact fun h9 => absurd (by decide) h9) (by have := R534.1 15 _ _ rfl; have := R534.1 16 _ _ rfl; have := R534.1 19 _ _ rfl; first | omega | decide | exact fun h9 => absurd (by decide) h9) (by have := R534.1 15 _ _ rfl; have := R534.1 16 _ _ rfl; have := R534.1 19 _ _ rfl; first | omega | decide | exact fun h9 => absurd (by decide) h9) (by have := R534.1 15 _ _ rfl; have := R534.1 16 _ _ rfl; have := R534.1 19 _ _ rfl; first | omega | decide | exact fun h9 => absurd (by decide) h9) (by have := R534.1 15 _ _ rfl; have := R534.1 16 _ _ rfl; have := R534.1 19 _ _ rfl; first | omega | decide | exact fun h9 => absurd (by decide) h9) (by rw [show (i6_273 + 1 : Int32).toInt.toNat = i6_273.toInt.toNat + 1 from by omega]; have := R534.1 15 _ _ rfl; have := R534.1 16 _ _ rfl; have := R534.1 19 _ _ rfl; omega) (by have := R534.1 15 _ _ rfl; have := R534.1 16 _ _ rfl; have := R534.1 19 _ _ rfl; first | omega | decide | exact fun h9 => absurd (by decide) h9) R534 K552 K553 K554 K555 (by have := R534.1 15 _ _ rfl; have := R534.1 16 _ _ rfl; have := R534.1 19 _ _ rfl; omega))
                              · refine mv_aload_n d_TrustDeskModel_fund_256 rfl rfl ?_
                                refine mv_iload d_TrustDeskModel_fund_257 rfl ?_
                                refine mv_iload_n d_TrustDeskModel_fund_259 rfl rfl ?_
                                refine mv_iload d_TrustDeskModel_fund_260 rfl ?_
                                refine mv_iconst (v := 0) d_TrustDeskModel_fund_262 (by decide) ?_
                                refine mv_iconst (v := 0) d_TrustDeskModel_fund_263 (by decide) ?_
                                refine mv_iconst (v := (-1)) d_TrustDeskModel_fund_264 (by decide) ?_
                                obtain ⟨_, b578, -⟩ := I532.1 _ _ h_q0_273
                                have b579 : (20 + v62 : Int32).toInt = (20 + v62.toInt) := mz_add2 (by decide) rfl (by have := R534.1 15 _ _ rfl; have := R534.1 16 _ _ rfl; have := R534.1 19 _ _ rfl; omega) (by have := R534.1 15 _ _ rfl; have := R534.1 16 _ _ rfl; have := R534.1 19 _ _ rfl; omega)
                                have b580 : (20 + v62 : Int32).toInt = (20 + v62.toInt) := mz_add2 (by decide) rfl (by have := R534.1 15 _ _ rfl; have := R534.1 16 _ _ rfl; have := R534.1 19 _ _ rfl; omega) (by have := R534.1 15 _ _ rfl; have := R534.1 16 _ _ rfl; have := R534.1 19 _ _ rfl; omega)
                                have b581 : (20 * (20 + v62) : Int32).toInt = (20 * (20 + v62.toInt)) := mz_mul2 (by decide) b580 (by have := R534.1 15 _ _ rfl; have := R534.1 16 _ _ rfl; have := R534.1 19 _ _ rfl; omega) (by have := R534.1 15 _ _ rfl; have := R534.1 16 _ _ rfl; have := R534.1 19 _ _ rfl; omega)
                                have b582 : ((20 * (20 + v62)) + i6_273 : Int32).toInt = ((20 * (20 + v62.toInt)) + i6_273.toInt) := mz_add2 b581 rfl (by have := R534.1 15 _ _ rfl; have := R534.1 16 _ _ rfl; have := R534.1 19 _ _ rfl; omega) (by have := R534.1 15 _ _ rfl; have := R534.1 16 _ _ rfl; have := R534.1 19 _ _ rfl; omega)
                                have : (0 : Int32).toInt = 0 := by decide
                                have : (0 : Int32).toInt = 0 := by decide
                                have : ((-1) : Int32).toInt = (-1) := by decide
                                refine mv_callV (kc' := 0) (ks' := 0) (As := [.int v62, .int (20 + v62), .int ((20 * (20 + v62)) + i6_273), .int 0, .int 0, .int (-1)]) (st9 := [.int (-1), .int 0, .int 0, .int ((20 * (20 + v62)) + i6_273), .int (20 + v62), .int v62, .ref o0]) d_TrustDeskModel_fund_265 lV_TrustDeskModel_428 b578 rfl (tc_TrustDeskModel_addEnd_x (d := (d + 26)) (x9 := x9) (o0 := o0) (x1 := v62) (x2 := (20 + v62)) (x3 := ((20 * (20 + v62)) + i6_273)) (x4 := 0) (x5 := 0) (x6 := (-1)) h_q0_273 (by have := R534.1 15 _ _ rfl; have := R534.1 16 _ _ rfl; have := R534.1 19 _ _ rfl; omega) (by have := R534.1 15 _ _ rfl; have := R534.1 16 _ _ rfl; have := R534.1 19 _ _ rfl; omega) (by have := R534.1 15 _ _ rfl; have := R534.1 16 _ _ rfl; have := R534.1 19 _ _ rfl; omega) R534 (by have := R534.1 15 _ _ rfl; have := R534.1 16 _ _ rfl; have := R534.1 19 _ _ rfl; omega) I532.start) rfl (Nat.le_of_ble_eq_true rfl) (Nat.le_of_ble_eq_true rfl) (Nat.le_of_ble_eq_true rfl) (hst := rfl) (fun b572r M573 n574 b572 => ?_)
                                obtain ⟨T575, J576, rfl, R583, f584⟩ := b572
                                have I577 := I532.call J576 (tm_sub (by decide)) (Or.inl rfl)
                                have t585 := J576.up h_q0_273
                                have z586 := (rv_c I532 J576 (I532.up h_o0) (k := 15) rfl).trans z538
                                have z587 := (rv_c I532 J576 (I532.up h_o0) (k := 16) rfl).trans z539
                                have z588 := (rv_c I532 J576 (I532.up h_o0) (k := 17) rfl).trans z540
                                have z589 := (rv_c I532 J576 (I532.up h_o0) (k := 19) rfl).trans z541
                                have z590 := (rv_c I532 J576 (I532.up h_o0) (k := 22) rfl).trans z542
                                have z591 := (rv_c I532 J576 (I532.up h_o0) (k := 24) rfl).trans z543
                                have z592 := (rv_c I532 J576 (I532.up h_o0) (k := 27) rfl).trans z544
                                have z593 := (rv_c I532 J576 (I532.up h_o0) (k := 32) rfl).trans z545
                                have z594 := (rv_c I532 J576 (I532.up h_o0) (k := 49) rfl).trans z546
                                have z595 := (ra_call I532 J576 (I532.up h_o0) (k := 5) rfl rfl rfl 44).trans z547
                                have z596 := (ra_call I532 J576 (I532.up h_o0) (k := 6) rfl rfl rfl 44).trans z548
                                have z597 := (ra_call I532 J576 (I532.up h_o0) (k := 6) rfl rfl rfl ((20 + v62).toNatClampNeg)).trans z549
                                have z598 := (ra_call I532 J576 (I532.up h_o0) (k := 37) rfl rfl rfl v62.toNatClampNeg).trans z551
                                have K599 : rP M573 o0 := K552.same (sA_c I532 J576 (I532.up h_o0) (by decide +kernel)) (sF_c I532 J576 (I532.up h_o0) (by decide +kernel))
                                have K600 : rB M573 o0 v62.toNatClampNeg := K553.add f584 (sA_c I532 J576 (I532.up h_o0) (by decide)) (sF_c I532 J576 (I532.up h_o0) (by decide)) (by have := mz_nat9 (i := v62) (by have := R534.1 15 _ _ rfl; have := R534.1 16 _ _ rfl; have := R534.1 19 _ _ rfl; omega); have := R534.1 15 _ _ rfl; have := R534.1 16 _ _ rfl; have := R534.1 19 _ _ rfl; omega)
                                have K601 : sA [7] M64 M573 o0 := K554.trans (sA_c I532 J576 (I532.up h_o0) (by decide +kernel))
                                have K602 : rC M573 o0 ((20 + v62).toNatClampNeg) := K555.add R534 f584 (by have := mz_nat9 (i := v62) (by have := R534.1 15 _ _ rfl; have := R534.1 16 _ _ rfl; have := R534.1 19 _ _ rfl; omega); have := R534.1 15 _ _ rfl; have := R534.1 16 _ _ rfl; have := R534.1 19 _ _ rfl; omega) i6_273.toInt.toNat (by have := R534.1 15 _ _ rfl; have := R534.1 16 _ _ rfl; have := R534.1 19 _ _ rfl; omega) (by have := mz_nat9 (i := i6_273) (by have := R534.1 15 _ _ rfl; have := R534.1 16 _ _ rfl; have := R534.1 19 _ _ rfl; omega); have := R534.1 15 _ _ rfl; have := R534.1 16 _ _ rfl; have := R534.1 19 _ _ rfl; omega) (by rw [show ((20 * (20 + v62)) + i6_273).toInt.toNat = ((20 * (20 + v62)) + i6_273).toNatClampNeg from by have := mz_nat9 (i := ((20 * (20 + v62)) + i6_273)) (by have := R534.1 15 _ _ rfl; have := R534.1 16 _ _ rfl; have := R534.1 19 _ _ rfl; omega); have := R534.1 15 _ _ rfl; have := R534.1 16 _ _ rfl; have := R534.1 19 _ _ rfl; omega]; omega) (sA_c I532 J576 (I532.up h_o0) (by decide)) (sF_c I532 J576 (I532.up h_o0) (by decide))
                                have := f584.2.2 v62.toNatClampNeg
                                rw [if_pos rfl] at this
                                clear z538 z539 z540 z542 z543 z544 z545 z546 z547 z548 z549 z551
                                have q603 := J576.keep h_q0_273 (by decide) (K533 _ 13 6 _ q274)
                                have t604 := J576.up t_a275
                                have q605 := J576.keep h_q0_273 (by decide) (K533 _ 13 7 _ q336)
                                have t606 := J576.up t_a337
                                have q607 := J576.keep h_q0_273 (by decide) (K533 _ 13 36 _ q520)
                                have t608 := J576.up t_a521
                                have q609 := J576.keep h_q0_273 (by decide) (K533 _ 13 8 _ q524)
                                have t610 := J576.up t_a525
                                refine mv_iinc (v := (i6_273 + 1)) (lv' := [(6, .int (i6_273 + 1)), (7, .int ((20 * (20 + v62)) + i6_273)), (5, .int v62), (4, .int v71), (3, .int (20 + v62)), (0, .ref o0), (1, .int x1), (2, .int x2)]) d_TrustDeskModel_fund_268 rfl rfl (by decide) rfl ?_
                                refine mv_goto (tgt := 155) d_TrustDeskModel_fund_271 (by decide) ?_
                                have b611 : (i6_273 + 1 : Int32).toInt = (i6_273.toInt + 1) := mz_add2 rfl (by decide) (by have := R583.1 15 _ _ rfl; have := R583.1 16 _ _ rfl; have := R583.1 19 _ _ rfl; omega) (by have := R583.1 15 _ _ rfl; have := R583.1 16 _ _ rfl; have := R583.1 19 _ _ rfl; omega)
                                refine mv_locals (lv' := [(6, .int (i6_273 + 1)), (5, .int v62), (4, .int v71), (3, .int (20 + v62)), (0, .ref o0), (1, .int x1), (2, .int x2)]) (by intro q hq; simp only [List.mem_cons, List.not_mem_nil, or_false] at hq; rcases hq with rfl | rfl | rfl | rfl | rfl | rfl | rfl <;> rfl) ?_
                                have b612 : (i6_273 + 1).toInt = i6_273.toInt + 1 := mz_addn 1 1 (by decide) (by have := mz_lo i6_273; omega) (by have := mz_hi i6_273; omega)
                                exact (ih273 (i6_273 + 1) T575 M573 n574 I577 t585 (by have := R583.1 15 _ _ rfl; have := R583.1 16 _ _ rfl; have := R583.1 19 _ _ rfl; first | omega | decide | exact fun h9 => absurd (by decide) h9) (by have := R583.1 15 _ _ rfl; have := R583.1 16 _ _ rfl; have := R583.1 19 _ _ rfl; first | omega | decide | exact fun h9 => absurd (by decide) h9) (by have := R583.1 15 _ _ rfl; have := R583.1 16 _ _ rfl; have := R583.1 19 _ _ rfl; first | omega | decide | exact fun h9 => absurd (by decide) h9) (by have := R583.1 15 _ _ rfl; have := R583.1 16 _ _ rfl; have := R583.1 19 _ _ rfl; first | omega | decide | exact fun h9 => absurd (by decide) h9) (by have := R583.1 15 _ _ rfl; have := R583.1 16 _ _ rfl; have := R583.1 19 _ _ rfl; first | omega | decide | exact fun h9 => absurd (by decide) h9) (by have := R583.1 15 _ _ rfl; have := R583.1 16 _ _ rfl; have := R583.1 19 _ _ rfl; first | omega | decide | exact fun h9 => absurd (by decide) h9) (by have := R583.1 15 _ _ rfl; have := R583.1 16 _ _ rfl; have := R583.1 19 _ _ rfl; first | omega | decide | exact fun h9 => absurd (by decide) h9) (by rw [show (i6_273 + 1 : Int32).toInt.toNat = i6_273.toInt.toNat + 1 from by omega]; have := R583.1 15 _ _ rfl; have := R583.1 16 _ _ rfl; have := R583.1 19 _ _ rfl; omega) (by have := R583.1 15 _ _ rfl; have := R583.1 16 _ _ rfl; have := R583.1 19 _ _ rfl; first | omega | decide | exact fun h9 => absurd (by decide) h9) R583 K599 K600 K601 K602 (by have := R583.1 15 _ _ rfl; have := R583.1 16 _ _ rfl; have := R583.1 19 _ _ rfl; omega))
                            · refine mv_aload_n d_TrustDeskModel_fund_216 rfl rfl ?_
                              obtain ⟨a614, q613, t_a614⟩ := tm_atR I532 h_q0_273 (k := 38) rfl
                              refine tr_getK q613 d_TrustDeskModel_fund_217 f_TrustDeskModel_82_13 ?_
                              refine mv_iload d_TrustDeskModel_fund_220 rfl ?_
                              refine mv_aload_n d_TrustDeskModel_fund_222 rfl rfl ?_
                              refine tr_getK (k := 8) (K533 _ 13 8 _ q524) d_TrustDeskModel_fund_223 f_TrustDeskModel_29_13 ?_
                              refine mv_iload d_TrustDeskModel_fund_226 rfl ?_
                              have b615 : (20 + v62 : Int32).toInt = (20 + v62.toInt) := mz_add2 (by decide) rfl (by have := R534.1 15 _ _ rfl; have := R534.1 16 _ _ rfl; have := R534.1 19 _ _ rfl; omega) (by have := R534.1 15 _ _ rfl; have := R534.1 16 _ _ rfl; have := R534.1 19 _ _ rfl; omega)
                              have b616 : (20 * (20 + v62) : Int32).toInt = (20 * (20 + v62.toInt)) := mz_mul2 (by decide) b615 (by have := R534.1 15 _ _ rfl; have := R534.1 16 _ _ rfl; have := R534.1 19 _ _ rfl; omega) (by have := R534.1 15 _ _ rfl; have := R534.1 16 _ _ rfl; have := R534.1 19 _ _ rfl; omega)
                              have b617 : ((20 * (20 + v62)) + i6_273 : Int32).toInt = ((20 * (20 + v62.toInt)) + i6_273.toInt) := mz_add2 b616 rfl (by have := R534.1 15 _ _ rfl; have := R534.1 16 _ _ rfl; have := R534.1 19 _ _ rfl; omega) (by have := R534.1 15 _ _ rfl; have := R534.1 16 _ _ rfl; have := R534.1 19 _ _ rfl; omega)
                              refine tr_ialdR (o := o0) (k := 8) I532 (K533 _ 13 8 _ q524) t_a525 (by decide) d_TrustDeskModel_fund_228 (vp_in_iff.mpr (by have := R534.1 15 _ _ rfl; have := R534.1 16 _ _ rfl; have := R534.1 19 _ _ rfl; omega)) (fun v618 e619 => ?_)
                              have := R534.a (k := 8) rfl (((20 * (20 + v62)) + i6_273) : Int32).toNatClampNeg
                              refine tr_iastR (k := 38) I532 R534 (I532.up h_o0) q613 t_a614 (by decide) (by decide) (fun lo hi h => by cases h) (Or.inl (by decide)) d_TrustDeskModel_fund_229 (vp_in_iff.mpr (by have := R534.1 15 _ _ rfl; have := R534.1 16 _ _ rfl; have := R534.1 19 _ _ rfl; omega)) (fun M620 I621 K622 R623 E624 A625 V626 => ?_)
                              have z627 := (V626 15).trans z538
                              have z628 := (V626 16).trans z539
                              have z629 := (V626 17).trans z540
                              have z630 := (V626 19).trans z541
                              have z631 := (V626 22).trans z542
                              have z632 := (V626 24).trans z543
                              have z633 := (V626 27).trans z544
                              have z634 := (V626 32).trans z545
                              have z635 := (V626 49).trans z546
                              have z636 := (A625 5 (by decide) rfl 44).trans z547
                              have z637 := (A625 6 (by decide) rfl 44).trans z548
                              have z638 := (A625 6 (by decide) rfl ((20 + v62).toNatClampNeg)).trans z549
                              have z639 := (A625 43 (by decide) rfl v62.toNatClampNeg).trans z550
                              have z640 := (A625 37 (by decide) rfl v62.toNatClampNeg).trans z551
                              have K641 : rP M620 o0 := K552.same (sA_a A625 (by decide +kernel)) (sF_a V626)
                              have K642 : rB M620 o0 v62.toNatClampNeg := K553.same (sA_a A625 (by decide +kernel)) (sF_a V626)
                              have K643 : sA [7] M64 M620 o0 := K554.trans (sA_a A625 (by decide +kernel))
                              have K644 : rC M620 o0 ((20 + v62).toNatClampNeg) := K555.same (sA_a A625 (by decide +kernel)) (sF_a V626)
                              clear z538 z539 z540 z542 z543 z544 z545 z546 z547 z548 z549 z550 z551
                              refine mv_aload_n d_TrustDeskModel_fund_230 rfl rfl ?_
                              obtain ⟨a646, q645, t_a646⟩ := tm_atR I621 h_q0_273 (k := 39) rfl
                              refine tr_getK q645 d_TrustDeskModel_fund_231 f_TrustDeskModel_85_13 ?_
                              refine mv_iload d_TrustDeskModel_fund_234 rfl ?_
                              refine mv_aload_n d_TrustDeskModel_fund_236 rfl rfl ?_
                              obtain ⟨a648, q647, t_a648⟩ := tm_atR I621 h_q0_273 (k := 9) rfl
                              refine tr_getK q647 d_TrustDeskModel_fund_237 f_TrustDeskModel_32_13 ?_
                              refine mv_iload d_TrustDeskModel_fund_240 rfl ?_
                              have b649 : (20 + v62 : Int32).toInt = (20 + v62.toInt) := mz_add2 (by decide) rfl (by have := R623.1 15 _ _ rfl; have := R623.1 16 _ _ rfl; have := R623.1 19 _ _ rfl; omega) (by have := R623.1 15 _ _ rfl; have := R623.1 16 _ _ rfl; have := R623.1 19 _ _ rfl; omega)
                              have b650 : (20 * (20 + v62) : Int32).toInt = (20 * (20 + v62.toInt)) := mz_mul2 (by decide) b649 (by have := R623.1 15 _ _ rfl; have := R623.1 16 _ _ rfl; have := R623.1 19 _ _ rfl; omega) (by have := R623.1 15 _ _ rfl; have := R623.1 16 _ _ rfl; have := R623.1 19 _ _ rfl; omega)
                              have b651 : ((20 * (20 + v62)) + i6_273 : Int32).toInt = ((20 * (20 + v62.toInt)) + i6_273.toInt) := mz_add2 b650 rfl (by have := R623.1 15 _ _ rfl; have := R623.1 16 _ _ rfl; have := R623.1 19 _ _ rfl; omega) (by have := R623.1 15 _ _ rfl; have := R623.1 16 _ _ rfl; have := R623.1 19 _ _ rfl; omega)
                              refine tr_ialdR (o := o0) (k := 9) I621 q647 t_a648 (by decide) d_TrustDeskModel_fund_242 (vp_in_iff.mpr (by have := R623.1 15 _ _ rfl; have := R623.1 16 _ _ rfl; have := R623.1 19 _ _ rfl; omega)) (fun v652 e653 => ?_)
                              refine tr_iastR (k := 39) I621 R623 (I621.up h_o0) q645 t_a646 (by decide) (by decide) (fun lo hi h => by cases h) (Or.inl (by decide)) d_TrustDeskModel_fund_243 (vp_in_iff.mpr (by have := R623.1 15 _ _ rfl; have := R623.1 16 _ _ rfl; have := R623.1 19 _ _ rfl; omega)) (fun M654 I655 K656 R657 E658 A659 V660 => ?_)
                              have z661 := (V660 15).trans z627
                              have z662 := (V660 16).trans z628
                              have z663 := (V660 17).trans z629
                              have z664 := (V660 19).trans z630
                              have z665 := (V660 22).trans z631
                              have z666 := (V660 24).trans z632
                              have z667 := (V660 27).trans z633
                              have z668 := (V660 32).trans z634
                              have z669 := (V660 49).trans z635
                              have z670 := (A659 5 (by decide) rfl 44).trans z636
                              have z671 := (A659 6 (by decide) rfl 44).trans z637
                              have z672 := (A659 6 (by decide) rfl ((20 + v62).toNatClampNeg)).trans z638
                              have z673 := (A659 43 (by decide) rfl v62.toNatClampNeg).trans z639
                              have z674 := (A659 37 (by decide) rfl v62.toNatClampNeg).trans z640
                              have K675 : rP M654 o0 := K641.same (sA_a A659 (by decide +kernel)) (sF_a V660)
                              have K676 : rB M654 o0 v62.toNatClampNeg := K642.same (sA_a A659 (by decide +kernel)) (sF_a V660)
                              have K677 : sA [7] M64 M654 o0 := K643.trans (sA_a A659 (by decide +kernel))
                              have K678 : rC M654 o0 ((20 + v62).toNatClampNeg) := K644.same (sA_a A659 (by decide +kernel)) (sF_a V660)
                              clear z627 z628 z629 z631 z632 z633 z634 z635 z636 z637 z638 z639 z640
                              refine mv_aload_n d_TrustDeskModel_fund_244 rfl rfl ?_
                              refine tr_getK (k := 7) (K656 _ 13 7 _ (K622 _ 13 7 _ (K533 _ 13 7 _ q336))) d_TrustDeskModel_fund_245 f_TrustDeskModel_26_13 ?_
                              refine mv_iload d_TrustDeskModel_fund_248 rfl ?_
                              have b679 : (20 + v62 : Int32).toInt = (20 + v62.toInt) := mz_add2 (by decide) rfl (by have := R657.1 15 _ _ rfl; have := R657.1 16 _ _ rfl; have := R657.1 19 _ _ rfl; omega) (by have := R657.1 15 _ _ rfl; have := R657.1 16 _ _ rfl; have := R657.1 19 _ _ rfl; omega)
                              have b680 : (20 * (20 + v62) : Int32).toInt = (20 * (20 + v62.toInt)) := mz_mul2 (by decide) b679 (by have := R657.1 15 _ _ rfl; have := R657.1 16 _ _ rfl; have := R657.1 19 _ _ rfl; omega) (by have := R657.1 15 _ _ rfl; have := R657.1 16 _ _ rfl; have := R657.1 19 _ _ rfl; omega)
                              have b681 : ((20 * (20 + v62)) + i6_273 : Int32).toInt = ((20 * (20 + v62.toInt)) + i6_273.toInt) := mz_add2 b680 rfl (by have := R657.1 15 _ _ rfl; have := R657.1 16 _ _ rfl; have := R657.1 19 _ _ rfl; omega) (by have := R657.1 15 _ _ rfl; have := R657.1 16 _ _ rfl; have := R657.1 19 _ _ rfl; omega)
                              refine tr_ialdR (o := o0) (k := 7) I655 (K656 _ 13 7 _ (K622 _ 13 7 _ (K533 _ 13 7 _ q336))) t_a337 (by decide) d_TrustDeskModel_fund_250 (vp_in_iff.mpr (by have := R657.1 15 _ _ rfl; have := R657.1 16 _ _ rfl; have := R657.1 19 _ _ rfl; omega)) (fun v682 e683 => ?_)
                              have h684 : ((20 * (20 + v62)) + i6_273).toNatClampNeg = 20 * (20 + v62).toNatClampNeg + i6_273.toInt.toNat := by have := mz_nat9 (i := ((20 * (20 + v62)) + i6_273)) (by have := R657.1 15 _ _ rfl; have := R657.1 16 _ _ rfl; have := R657.1 19 _ _ rfl; omega); have := mz_nat9 (i := (20 + v62)) (by have := R657.1 15 _ _ rfl; have := R657.1 16 _ _ rfl; have := R657.1 19 _ _ rfl; omega); have := R657.1 15 _ _ rfl; have := R657.1 16 _ _ rfl; have := R657.1 19 _ _ rfl; omega
                              have : v682.toInt = ra M64 o0 7 (20 * (20 + v62).toNatClampNeg + i6_273.toInt.toNat) := by have e9 := K677 7 rfl; rw [← e9, e683, h684]
                              refine mv_bipush (v := 8) d_TrustDeskModel_fund_251 (by decide) ?_
                              have := mz_hi v682
                              refine mv_icmp_neZ (tgt := 268) (a := v682.toInt) (b := 8) d_TrustDeskModel_fund_253 (by decide) rfl (by decide) (fun b685 => ?_) (fun b685 => ?_)
                              · refine mv_iinc (v := (i6_273 + 1)) (lv' := [(6, .int (i6_273 + 1)), (7, .int ((20 * (20 + v62)) + i6_273)), (5, .int v62), (4, .int v71), (3, .int (20 + v62)), (0, .ref o0), (1, .int x1), (2, .int x2)]) d_TrustDeskModel_fund_268 rfl rfl (by decide) rfl ?_
                                refine mv_goto (tgt := 155) d_TrustDeskModel_fund_271 (by decide) ?_
                                have b686 : (i6_273 + 1 : Int32).toInt = (i6_273.toInt + 1) := mz_add2 rfl (by decide) (by have := R657.1 15 _ _ rfl; have := R657.1 16 _ _ rfl; have := R657.1 19 _ _ rfl; omega) (by have := R657.1 15 _ _ rfl; have := R657.1 16 _ _ rfl; have := R657.1 19 _ _ rfl; omega)
                                refine mv_locals (lv' := [(6, .int (i6_273 + 1)), (5, .int v62), (4, .int v71), (3, .int (20 + v62)), (0, .ref o0), (1, .int x1), (2, .int x2)]) (by intro q hq; simp only [List.mem_cons, List.not_mem_nil, or_false] at hq; rcases hq with rfl | rfl | rfl | rfl | rfl | rfl | rfl <;> rfl) ?_
                                have b687 : (i6_273 + 1).toInt = i6_273.toInt + 1 := mz_addn 1 1 (by decide) (by have := mz_lo i6_273; omega) (by have := mz_hi i6_273; omega)
                                exact (ih273 (i6_273 + 1) T_273 M654 n_273 I655 h_q0_273 (by have := R657.1 15 _ _ rfl; have := R657.1 16 _ _ rfl; have := R657.1 19 _ _ rfl; first | omega | decide | exact fun h9 => absurd (by decide) h9) (by have := R657.1 15 _ _ rfl; have := R657.1 16 _ _ rfl; have := R657.1 19 _ _ rfl; first | omega | decide | exact fun h9 => absurd (by decide) h9) (by have := R657.1 15 _ _ rfl; have := R657.1 16 _ _ rfl; have := R657.1 19 _ _ rfl; first | omega | decide | exact fun h9 => absurd (by decide) h9) (by have := R657.1 15 _ _ rfl; have := R657.1 16 _ _ rfl; have := R657.1 19 _ _ rfl; first | omega | decide | exact fun h9 => absurd (by decide) h9) (by have := R657.1 15 _ _ rfl; have := R657.1 16 _ _ rfl; have := R657.1 19 _ _ rfl; first | omega | decide | exact fun h9 => absurd (by decide) h9) (by have := R657.1 15 _ _ rfl; have := R657.1 16 _ _ rfl; have := R657.1 19 _ _ rfl; first | omega | decide | exact fun h9 => absurd (by decide) h9) (by have := R657.1 15 _ _ rfl; have := R657.1 16 _ _ rfl; have := R657.1 19 _ _ rfl; first | omega | decide | exact fun h9 => absurd (by decide) h9) (by rw [show (i6_273 + 1 : Int32).toInt.toNat = i6_273.toInt.toNat + 1 from by omega]; have := R657.1 15 _ _ rfl; have := R657.1 16 _ _ rfl; have := R657.1 19 _ _ rfl; omega) (by have := R657.1 15 _ _ rfl; have := R657.1 16 _ _ rfl; have := R657.1 19 _ _ rfl; first | omega | decide | exact fun h9 => absurd (by decide) h9) R657 K675 K676 K677 K678 (by have := R657.1 15 _ _ rfl; have := R657.1 16 _ _ rfl; have := R657.1 19 _ _ rfl; omega))
                              · refine mv_aload_n d_TrustDeskModel_fund_256 rfl rfl ?_
                                refine mv_iload d_TrustDeskModel_fund_257 rfl ?_
                                refine mv_iload_n d_TrustDeskModel_fund_259 rfl rfl ?_
                                refine mv_iload d_TrustDeskModel_fund_260 rfl ?_
                                refine mv_iconst (v := 0) d_TrustDeskModel_fund_262 (by decide) ?_
                                refine mv_iconst (v := 0) d_TrustDeskModel_fund_263 (by decide) ?_
                                refine mv_iconst (v := (-1)) d_TrustDeskModel_fund_264 (by decide) ?_
                                obtain ⟨_, b694, -⟩ := I655.1 _ _ h_q0_273
                                have b695 : (20 + v62 : Int32).toInt = (20 + v62.toInt) := mz_add2 (by decide) rfl (by have := R657.1 15 _ _ rfl; have := R657.1 16 _ _ rfl; have := R657.1 19 _ _ rfl; omega) (by have := R657.1 15 _ _ rfl; have := R657.1 16 _ _ rfl; have := R657.1 19 _ _ rfl; omega)
                                have b696 : (20 + v62 : Int32).toInt = (20 + v62.toInt) := mz_add2 (by decide) rfl (by have := R657.1 15 _ _ rfl; have := R657.1 16 _ _ rfl; have := R657.1 19 _ _ rfl; omega) (by have := R657.1 15 _ _ rfl; have := R657.1 16 _ _ rfl; have := R657.1 19 _ _ rfl; omega)
                                have b697 : (20 * (20 + v62) : Int32).toInt = (20 * (20 + v62.toInt)) := mz_mul2 (by decide) b696 (by have := R657.1 15 _ _ rfl; have := R657.1 16 _ _ rfl; have := R657.1 19 _ _ rfl; omega) (by have := R657.1 15 _ _ rfl; have := R657.1 16 _ _ rfl; have := R657.1 19 _ _ rfl; omega)
                                have b698 : ((20 * (20 + v62)) + i6_273 : Int32).toInt = ((20 * (20 + v62.toInt)) + i6_273.toInt) := mz_add2 b697 rfl (by have := R657.1 15 _ _ rfl; have := R657.1 16 _ _ rfl; have := R657.1 19 _ _ rfl; omega) (by have := R657.1 15 _ _ rfl; have := R657.1 16 _ _ rfl; have := R657.1 19 _ _ rfl; omega)
                                have : (0 : Int32).toInt = 0 := by decide
                                have : (0 : Int32).toInt = 0 := by decide
                                have : ((-1) : Int32).toInt = (-1) := by decide
                                refine mv_callV (kc' := 0) (ks' := 0) (As := [.int v62, .int (20 + v62), .int ((20 * (20 + v62)) + i6_273), .int 0, .int 0, .int (-1)]) (st9 := [.int (-1), .int 0, .int 0, .int ((20 * (20 + v62)) + i6_273), .int (20 + v62), .int v62, .ref o0]) d_TrustDeskModel_fund_265 lV_TrustDeskModel_428 b694 rfl (tc_TrustDeskModel_addEnd_x (d := (d + 26)) (x9 := x9) (o0 := o0) (x1 := v62) (x2 := (20 + v62)) (x3 := ((20 * (20 + v62)) + i6_273)) (x4 := 0) (x5 := 0) (x6 := (-1)) h_q0_273 (by have := R657.1 15 _ _ rfl; have := R657.1 16 _ _ rfl; have := R657.1 19 _ _ rfl; omega) (by have := R657.1 15 _ _ rfl; have := R657.1 16 _ _ rfl; have := R657.1 19 _ _ rfl; omega) (by have := R657.1 15 _ _ rfl; have := R657.1 16 _ _ rfl; have := R657.1 19 _ _ rfl; omega) R657 (by have := R657.1 15 _ _ rfl; have := R657.1 16 _ _ rfl; have := R657.1 19 _ _ rfl; omega) I655.start) rfl (Nat.le_of_ble_eq_true rfl) (Nat.le_of_ble_eq_true rfl) (Nat.le_of_ble_eq_true rfl) (hst := rfl) (fun b688r M689 n690 b688 => ?_)
                                obtain ⟨T691, J692, rfl, R699, f700⟩ := b688
                                have I693 := I655.call J692 (tm_sub (by decide)) (Or.inl rfl)
                                have t701 := J692.up h_q0_273
                                have z702 := (rv_c I655 J692 (I655.up h_o0) (k := 15) rfl).trans z661
                                have z703 := (rv_c I655 J692 (I655.up h_o0) (k := 16) rfl).trans z662
                                have z704 := (rv_c I655 J692 (I655.up h_o0) (k := 17) rfl).trans z663
                                have z705 := (rv_c I655 J692 (I655.up h_o0) (k := 19) rfl).trans z664
                                have z706 := (rv_c I655 J692 (I655.up h_o0) (k := 22) rfl).trans z665
                                have z707 := (rv_c I655 J692 (I655.up h_o0) (k := 24) rfl).trans z666
                                have z708 := (rv_c I655 J692 (I655.up h_o0) (k := 27) rfl).trans z667
                                have z709 := (rv_c I655 J692 (I655.up h_o0) (k := 32) rfl).trans z668
                                have z710 := (rv_c I655 J692 (I655.up h_o0) (k := 49) rfl).trans z669
                                have z711 := (ra_call I655 J692 (I655.up h_o0) (k := 5) rfl rfl rfl 44).trans z670
                                have z712 := (ra_call I655 J692 (I655.up h_o0) (k := 6) rfl rfl rfl 44).trans z671
                                have z713 := (ra_call I655 J692 (I655.up h_o0) (k := 6) rfl rfl rfl ((20 + v62).toNatClampNeg)).trans z672
                                have z714 := (ra_call I655 J692 (I655.up h_o0) (k := 37) rfl rfl rfl v62.toNatClampNeg).trans z674
                                have K715 : rP M689 o0 := K675.same (sA_c I655 J692 (I655.up h_o0) (by decide +kernel)) (sF_c I655 J692 (I655.up h_o0) (by decide +kernel))
                                have K716 : rB M689 o0 v62.toNatClampNeg := K676.add f700 (sA_c I655 J692 (I655.up h_o0) (by decide)) (sF_c I655 J692 (I655.up h_o0) (by decide)) (by have := mz_nat9 (i := v62) (by have := R657.1 15 _ _ rfl; have := R657.1 16 _ _ rfl; have := R657.1 19 _ _ rfl; omega); have := R657.1 15 _ _ rfl; have := R657.1 16 _ _ rfl; have := R657.1 19 _ _ rfl; omega)
                                have K717 : sA [7] M64 M689 o0 := K677.trans (sA_c I655 J692 (I655.up h_o0) (by decide +kernel))
                                have K718 : rC M689 o0 ((20 + v62).toNatClampNeg) := K678.add R657 f700 (by have := mz_nat9 (i := v62) (by have := R657.1 15 _ _ rfl; have := R657.1 16 _ _ rfl; have := R657.1 19 _ _ rfl; omega); have := R657.1 15 _ _ rfl; have := R657.1 16 _ _ rfl; have := R657.1 19 _ _ rfl; omega) i6_273.toInt.toNat (by have := R657.1 15 _ _ rfl; have := R657.1 16 _ _ rfl; have := R657.1 19 _ _ rfl; omega) (by have := mz_nat9 (i := i6_273) (by have := R657.1 15 _ _ rfl; have := R657.1 16 _ _ rfl; have := R657.1 19 _ _ rfl; omega); have := R657.1 15 _ _ rfl; have := R657.1 16 _ _ rfl; have := R657.1 19 _ _ rfl; omega) (by rw [show ((20 * (20 + v62)) + i6_273).toInt.toNat = ((20 * (20 + v62)) + i6_273).toNatClampNeg from by have := mz_nat9 (i := ((20 * (20 + v62)) + i6_273)) (by have := R657.1 15 _ _ rfl; have := R657.1 16 _ _ rfl; have := R657.1 19 _ _ rfl; omega); have := R657.1 15 _ _ rfl; have := R657.1 16 _ _ rfl; have := R657.1 19 _ _ rfl; omega]; omega) (sA_c I655 J692 (I655.up h_o0) (by decide)) (sF_c I655 J692 (I655.up h_o0) (by decide))
                                have := f700.2.2 v62.toNatClampNeg
                                rw [if_pos rfl] at this
                                clear z661 z662 z663 z665 z666 z667 z668 z669 z670 z671 z672 z674
                                have q719 := J692.keep h_q0_273 (by decide) (K656 _ 13 6 _ (K622 _ 13 6 _ (K533 _ 13 6 _ q274)))
                                have t720 := J692.up t_a275
                                have q721 := J692.keep h_q0_273 (by decide) (K656 _ 13 7 _ (K622 _ 13 7 _ (K533 _ 13 7 _ q336)))
                                have t722 := J692.up t_a337
                                have q723 := J692.keep h_q0_273 (by decide) (K656 _ 13 36 _ (K622 _ 13 36 _ (K533 _ 13 36 _ q520)))
                                have t724 := J692.up t_a521
                                have q725 := J692.keep h_q0_273 (by decide) (K656 _ 13 8 _ (K622 _ 13 8 _ (K533 _ 13 8 _ q524)))
                                have t726 := J692.up t_a525
                                have q727 := J692.keep h_q0_273 (by decide) (K656 _ 13 38 _ (K622 _ 13 38 _ q613))
                                have t728 := J692.up t_a614
                                have q729 := J692.keep h_q0_273 (by decide) (K656 _ 13 39 _ q645)
                                have t730 := J692.up t_a646
                                have q731 := J692.keep h_q0_273 (by decide) (K656 _ 13 9 _ q647)
                                have t732 := J692.up t_a648
                                refine mv_iinc (v := (i6_273 + 1)) (lv' := [(6, .int (i6_273 + 1)), (7, .int ((20 * (20 + v62)) + i6_273)), (5, .int v62), (4, .int v71), (3, .int (20 + v62)), (0, .ref o0), (1, .int x1), (2, .int x2)]) d_TrustDeskModel_fund_268 rfl rfl (by decide) rfl ?_
                                refine mv_goto (tgt := 155) d_TrustDeskModel_fund_271 (by decide) ?_
                                have b733 : (i6_273 + 1 : Int32).toInt = (i6_273.toInt + 1) := mz_add2 rfl (by decide) (by have := R699.1 15 _ _ rfl; have := R699.1 16 _ _ rfl; have := R699.1 19 _ _ rfl; omega) (by have := R699.1 15 _ _ rfl; have := R699.1 16 _ _ rfl; have := R699.1 19 _ _ rfl; omega)
                                refine mv_locals (lv' := [(6, .int (i6_273 + 1)), (5, .int v62), (4, .int v71), (3, .int (20 + v62)), (0, .ref o0), (1, .int x1), (2, .int x2)]) (by intro q hq; simp only [List.mem_cons, List.not_mem_nil, or_false] at hq; rcases hq with rfl | rfl | rfl | rfl | rfl | rfl | rfl <;> rfl) ?_
                                have b734 : (i6_273 + 1).toInt = i6_273.toInt + 1 := mz_addn 1 1 (by decide) (by have := mz_lo i6_273; omega) (by have := mz_hi i6_273; omega)
                                exact (ih273 (i6_273 + 1) T691 M689 n690 I693 t701 (by have := R699.1 15 _ _ rfl; have := R699.1 16 _ _ rfl; have := R699.1 19 _ _ rfl; first | omega | decide | exact fun h9 => absurd (by decide) h9) (by have := R699.1 15 _ _ rfl; have := R699.1 16 _ _ rfl; have := R699.1 19 _ _ rfl; first | omega | decide | exact fun h9 => absurd (by decide) h9) (by have := R699.1 15 _ _ rfl; have := R699.1 16 _ _ rfl; have := R699.1 19 _ _ rfl; first | omega | decide | exact fun h9 => absurd (by decide) h9) (by have := R699.1 15 _ _ rfl; have := R699.1 16 _ _ rfl; have := R699.1 19 _ _ rfl; first | omega | decide | exact fun h9 => absurd (by decide) h9) (by have := R699.1 15 _ _ rfl; have := R699.1 16 _ _ rfl; have := R699.1 19 _ _ rfl; first | omega | decide | exact fun h9 => absurd (by decide) h9) (by have := R699.1 15 _ _ rfl; have := R699.1 16 _ _ rfl; have := R699.1 19 _ _ rfl; first | omega | decide | exact fun h9 => absurd (by decide) h9) (by have := R699.1 15 _ _ rfl; have := R699.1 16 _ _ rfl; have := R699.1 19 _ _ rfl; first | omega | decide | exact fun h9 => absurd (by decide) h9) (by rw [show (i6_273 + 1 : Int32).toInt.toNat = i6_273.toInt.toNat + 1 from by omega]; have := R699.1 15 _ _ rfl; have := R699.1 16 _ _ rfl; have := R699.1 19 _ _ rfl; omega) (by have := R699.1 15 _ _ rfl; have := R699.1 16 _ _ rfl; have := R699.1 19 _ _ rfl; first | omega | decide | exact fun h9 => absurd (by decide) h9) R699 K715 K716 K717 K718 (by have := R699.1 15 _ _ rfl; have := R699.1 16 _ _ rfl; have := R699.1 19 _ _ rfl; omega))
                    have : (0 : Int32).toInt = 0 := by decide
                    have K735 : rB M248 o0 v62.toNatClampNeg := K270.to
                    exact mv_less (Nat.zero_le _) (Nat.zero_le _) (L155_273 4294967296 0 T66 M248 n65 I249 t75 (by have := R251.1 15 _ _ rfl; have := R251.1 16 _ _ rfl; have := R251.1 19 _ _ rfl; first | omega | decide | exact fun h9 => absurd (by decide) h9) (by have := R251.1 15 _ _ rfl; have := R251.1 16 _ _ rfl; have := R251.1 19 _ _ rfl; first | omega | decide | exact fun h9 => absurd (by decide) h9) (by have := R251.1 15 _ _ rfl; have := R251.1 16 _ _ rfl; have := R251.1 19 _ _ rfl; first | omega | decide | exact fun h9 => absurd (by decide) h9) (by have := R251.1 15 _ _ rfl; have := R251.1 16 _ _ rfl; have := R251.1 19 _ _ rfl; first | omega | decide | exact fun h9 => absurd (by decide) h9) (by have := R251.1 15 _ _ rfl; have := R251.1 16 _ _ rfl; have := R251.1 19 _ _ rfl; first | omega | decide | exact fun h9 => absurd (by decide) h9) (by have := R251.1 15 _ _ rfl; have := R251.1 16 _ _ rfl; have := R251.1 19 _ _ rfl; first | omega | decide | exact fun h9 => absurd (by decide) h9) (by have := R251.1 15 _ _ rfl; have := R251.1 16 _ _ rfl; have := R251.1 19 _ _ rfl; first | omega | decide | exact fun h9 => absurd (by decide) h9) (by show _ ≤ kc _ _ _ 0; show _ ≤ (0 : Int); have := R251.1 15 _ _ rfl; have := R251.1 16 _ _ rfl; have := R251.1 19 _ _ rfl; omega) (by have := R251.1 15 _ _ rfl; have := R251.1 16 _ _ rfl; have := R251.1 19 _ _ rfl; first | omega | decide | exact fun h9 => absurd (by decide) h9) R251 K269 K735 K271 K272 (by show (2147483647 - (0 : Int) : Int) < _; decide))
                  · have K736 : rC M64 o0 44 := K87.1 (by omega)
                    refine mv_iload d_TrustDeskModel_fund_86 rfl ?_
                    exact mv_iret d_TrustDeskModel_fund_88 rfl (by first | rfl | decide) ⟨_, I68, _, rfl, R72, K736, K85, K86, (by have := R72.1 15 _ _ rfl; have := R72.1 16 _ _ rfl; have := R72.1 19 _ _ rfl; omega)⟩
                · refine mv_iconst (v := 1) d_TrustDeskModel_isWell_7 (by decide) ?_
                  refine mv_goto (tgt := 12) d_TrustDeskModel_isWell_8 (by decide) ?_
                  refine mv_iret d_TrustDeskModel_isWell_12 rfl (by decide) ?_
                  refine mv_if_eq_f (tgt := 66) d_TrustDeskModel_fund_49 (by decide) (by decide) ?_
                  refine mv_aload_n d_TrustDeskModel_fund_52 rfl rfl ?_
                  obtain ⟨v738, q737⟩ := tm_atI I_56 h_q0_56 (k := 17) rfl
                  refine tr_getK q737 d_TrustDeskModel_fund_53 f_TrustDeskModel_198_13 ?_
                  have := tm_rv q737
                  have := mz_hi v738
                  refine mv_if_eqZ (tgt := 66) (a := v738.toInt) d_TrustDeskModel_fund_56 (by decide) rfl (fun b739 => ?_) (fun b739 => ?_)
                  · refine mv_bipush (v := 20) d_TrustDeskModel_fund_66 (by decide) ?_
                    refine mv_aload_n d_TrustDeskModel_fund_68 rfl rfl ?_
                    obtain ⟨v741, q740⟩ := tm_atI I_56 h_q0_56 (k := 32) rfl
                    refine tr_getK q740 d_TrustDeskModel_fund_69 f_TrustDeskModel_415_13 ?_
                    have := kKR_56.f (k := 32) q740 rfl
                    have := tm_rv q740
                    refine mv_iadd d_TrustDeskModel_fund_72 ?_
                    refine mv_istore_n (lv' := [(3, .int (20 + v741)), (0, .ref o0), (1, .int x1), (2, .int x2)]) d_TrustDeskModel_fund_73 rfl (by decide) rfl ?_
                    refine mv_aload_n d_TrustDeskModel_fund_74 rfl rfl ?_
                    refine mv_iload_n d_TrustDeskModel_fund_75 rfl rfl ?_
                    obtain ⟨_, b748, -⟩ := I_56.1 _ _ h_q0_56
                    have b749 : (20 + v741 : Int32).toInt = (20 + v741.toInt) := mz_add2 (by decide) rfl (by have := kKR_56.1 15 _ _ rfl; have := kKR_56.1 16 _ _ rfl; have := kKR_56.1 19 _ _ rfl; omega) (by have := kKR_56.1 15 _ _ rfl; have := kKR_56.1 16 _ _ rfl; have := kKR_56.1 19 _ _ rfl; omega)
                    refine mv_callV (kc' := 0) (ks' := 0) (As := [.int (20 + v741)]) (st9 := [.int (20 + v741), .ref o0]) d_TrustDeskModel_fund_76 lV_TrustDeskModel_388 b748 rfl (tc_TrustDeskModel_stops_x (d := (d + 25)) (x9 := x9) (o0 := o0) (x1 := (20 + v741)) h_q0_56 kKR_56 (by have := kKR_56.1 15 _ _ rfl; have := kKR_56.1 16 _ _ rfl; have := kKR_56.1 19 _ _ rfl; omega) I_56.start) rfl (Nat.le_of_ble_eq_true rfl) (Nat.le_of_ble_eq_true rfl) (Nat.le_of_ble_eq_true rfl) (hst := rfl) (fun b742r M743 n744 b742 => ?_)
                    obtain ⟨T745, J746, v750, rfl, R751, f752, f753⟩ := b742
                    have I747 := I_56.call J746 (tm_sub (by decide)) (Or.inl rfl)
                    have t754 := J746.up h_q0_56
                    replace f752 := Im.i f752
                    replace f753 := Im.i f753
                    have z755 := (rv_c I_56 J746 (I_56.up h_o0) (k := 15) rfl)
                    have z756 := (rv_c I_56 J746 (I_56.up h_o0) (k := 16) rfl)
                    have z757 := (rv_c I_56 J746 (I_56.up h_o0) (k := 17) rfl)
                    have z758 := (rv_c I_56 J746 (I_56.up h_o0) (k := 19) rfl)
                    have z759 := (rv_c I_56 J746 (I_56.up h_o0) (k := 22) rfl)
                    have z760 := (rv_c I_56 J746 (I_56.up h_o0) (k := 24) rfl)
                    have z761 := (rv_c I_56 J746 (I_56.up h_o0) (k := 27) rfl)
                    have z762 := (rv_c I_56 J746 (I_56.up h_o0) (k := 32) rfl)
                    have z763 := (rv_c I_56 J746 (I_56.up h_o0) (k := 49) rfl)
                    have K764 : rP M743 o0 := kKP_56.same (sA_c I_56 J746 (I_56.up h_o0) (by decide +kernel)) (sF_c I_56 J746 (I_56.up h_o0) (by decide +kernel))
                    have K765 : rB M743 o0 12 := kKB_56.same (sA_c I_56 J746 (I_56.up h_o0) (by decide +kernel)) (sF_c I_56 J746 (I_56.up h_o0) (by decide +kernel))
                    have K766 : (v750.toInt < 0 → rC M743 o0 44) ∧ (0 ≤ v750.toInt → rC M743 o0 ((20 + v741).toNatClampNeg)) := rC.st kKC_56 kKR_56 kKW_56 (by have := mz_nat9 (i := (20 + v741)) (by have := kKR_56.1 15 _ _ rfl; have := kKR_56.1 16 _ _ rfl; have := kKR_56.1 19 _ _ rfl; omega); have := kKR_56.1 15 _ _ rfl; have := kKR_56.1 16 _ _ rfl; have := kKR_56.1 19 _ _ rfl; omega) (by unfold rU; have := mz_nat9 (i := (20 + v741)) (by have := kKR_56.1 15 _ _ rfl; have := kKR_56.1 16 _ _ rfl; have := kKR_56.1 19 _ _ rfl; omega); have := kKR_56.1 15 _ _ rfl; have := kKR_56.1 16 _ _ rfl; have := kKR_56.1 19 _ _ rfl; omega) f752 f753 (sA_c I_56 J746 (I_56.up h_o0) (by decide)) (sF_c I_56 J746 (I_56.up h_o0) (by decide))
                    have h767 := kc_of f752 f753 kKR_56 kKW_56
                    have := (kKR_56.2 6 _ _ rfl 44)
                    have K768 : sA [7] M743 M743 o0 := sA.rf
                    have : 0 ≤ v750.toInt → ra M743 o0 6 (20 + v741).toNatClampNeg = ra M_56 o0 6 44 := fun h9 => by
                      by_cases w9 : rv M_56 o0 19 = 0
                      · exact (f753.o w9).2.2.2.2.2.2.2
                      · have := (f752.o w9).1; omega
                    have q769 := J746.keep h_q0_56 (by decide) q58
                    have q770 := J746.keep h_q0_56 (by decide) q737
                    have q771 := J746.keep h_q0_56 (by decide) q740
                    refine mv_istore (lv' := [(4, .int v750), (3, .int (20 + v741)), (0, .ref o0), (1, .int x1), (2, .int x2)]) d_TrustDeskModel_fund_79 (by decide) rfl ?_
                    refine mv_iload d_TrustDeskModel_fund_81 rfl ?_
                    have := mz_hi v750
                    refine mv_if_geZ (tgt := 89) (a := v750.toInt) d_TrustDeskModel_fund_83 (by decide) rfl (fun b772 => ?_) (fun b772 => ?_)
                    · have K773 : rC M743 o0 ((20 + v741).toNatClampNeg) := K766.2 (by omega)
                      refine mv_aload_n d_TrustDeskModel_fund_89 rfl rfl ?_
                      refine tr_getK (k := 32) q771 d_TrustDeskModel_fund_90 f_TrustDeskModel_415_13 ?_
                      refine mv_istore (lv' := [(5, .int v741), (4, .int v750), (3, .int (20 + v741)), (0, .ref o0), (1, .int x1), (2, .int x2)]) d_TrustDeskModel_fund_93 (by decide) rfl ?_
                      refine mv_aload_n d_TrustDeskModel_fund_95 rfl rfl ?_
                      obtain ⟨a775, q774, t_a775⟩ := tm_atR I747 t754 (k := 33) rfl
                      refine tr_getK q774 d_TrustDeskModel_fund_96 f_TrustDeskModel_66_13 ?_
                      refine mv_iload d_TrustDeskModel_fund_99 rfl ?_
                      refine mv_iload_n d_TrustDeskModel_fund_101 rfl rfl ?_
                      refine tr_iastR (k := 33) I747 R751 (I747.up h_o0) q774 t_a775 (by decide) (by decide) (fun lo hi h => by cases h; have := R751.1 15 _ _ rfl; have := R751.1 16 _ _ rfl; have := R751.1 19 _ _ rfl; exact ⟨by show (0 : Int) ≤ x1.toInt; omega, by show x1.toInt ≤ (999 : Int); omega⟩) (Or.inl (by decide)) d_TrustDeskModel_fund_102 (vp_in_iff.mpr (by have := R751.1 15 _ _ rfl; have := R751.1 16 _ _ rfl; have := R751.1 19 _ _ rfl; omega)) (fun M776 I777 K778 R779 E780 A781 V782 => ?_)
                      have z783 := (V782 15).trans z755
                      have z784 := (V782 16).trans z756
                      have z785 := (V782 17).trans z757
                      have z786 := (V782 19).trans z758
                      have z787 := (V782 22).trans z759
                      have z788 := (V782 24).trans z760
                      have z789 := (V782 27).trans z761
                      have z790 := (V782 32).trans z762
                      have z791 := (V782 49).trans z763
                      have z792 := (A781 5 (by decide) rfl 44)
                      have z793 := (A781 6 (by decide) rfl 44)
                      have z794 := (A781 6 (by decide) rfl ((20 + v741).toNatClampNeg))
                      have K795 : rP M776 o0 := K764.same (sA_a A781 (by decide +kernel)) (sF_a V782)
                      have K796 : rB M776 o0 12 := K765.same (sA_a A781 (by decide +kernel)) (sF_a V782)
                      have K797 : sA [7] M743 M776 o0 := K768.trans (sA_a A781 (by decide +kernel))
                      have K798 : rC M776 o0 ((20 + v741).toNatClampNeg) := K773.same (sA_a A781 (by decide +kernel)) (sF_a V782)
                      clear z755 z756 z757 z759 z760 z761 z762 z763
                      refine mv_aload_n d_TrustDeskModel_fund_103 rfl rfl ?_
                      obtain ⟨a800, q799, t_a800⟩ := tm_atR I777 t754 (k := 34) rfl
                      refine tr_getK q799 d_TrustDeskModel_fund_104 f_TrustDeskModel_69_13 ?_
                      refine mv_iload d_TrustDeskModel_fund_107 rfl ?_
                      refine mv_iload_n d_TrustDeskModel_fund_109 rfl rfl ?_
                      refine tr_iastR (k := 34) I777 R779 (I777.up h_o0) q799 t_a800 (by decide) (by decide) (fun lo hi h => by cases h; have := R779.1 15 _ _ rfl; have := R779.1 16 _ _ rfl; have := R779.1 19 _ _ rfl; exact ⟨by show (0 : Int) ≤ x2.toInt; omega, by show x2.toInt ≤ (99999 : Int); omega⟩) (Or.inl (by decide)) d_TrustDeskModel_fund_110 (vp_in_iff.mpr (by have := R779.1 15 _ _ rfl; have := R779.1 16 _ _ rfl; have := R779.1 19 _ _ rfl; omega)) (fun M801 I802 K803 R804 E805 A806 V807 => ?_)
                      have z808 := (V807 15).trans z783
                      have z809 := (V807 16).trans z784
                      have z810 := (V807 17).trans z785
                      have z811 := (V807 19).trans z786
                      have z812 := (V807 22).trans z787
                      have z813 := (V807 24).trans z788
                      have z814 := (V807 27).trans z789
                      have z815 := (V807 32).trans z790
                      have z816 := (V807 49).trans z791
                      have z817 := (A806 5 (by decide) rfl 44).trans z792
                      have z818 := (A806 6 (by decide) rfl 44).trans z793
                      have z819 := (A806 6 (by decide) rfl ((20 + v741).toNatClampNeg)).trans z794
                      have K820 : rP M801 o0 := K795.same (sA_a A806 (by decide +kernel)) (sF_a V807)
                      have K821 : rB M801 o0 12 := K796.same (sA_a A806 (by decide +kernel)) (sF_a V807)
                      have K822 : sA [7] M743 M801 o0 := K797.trans (sA_a A806 (by decide +kernel))
                      have K823 : rC M801 o0 ((20 + v741).toNatClampNeg) := K798.same (sA_a A806 (by decide +kernel)) (sF_a V807)
                      clear z783 z784 z785 z787 z788 z789 z790 z791 z792 z793 z794
                      refine mv_aload_n d_TrustDeskModel_fund_111 rfl rfl ?_
                      obtain ⟨a825, q824, t_a825⟩ := tm_atR I802 t754 (k := 35) rfl
                      refine tr_getK q824 d_TrustDeskModel_fund_112 f_TrustDeskModel_72_13 ?_
                      refine mv_iload d_TrustDeskModel_fund_115 rfl ?_
                      refine mv_lconst (v := 0) d_TrustDeskModel_fund_117 (by decide) ?_
                      refine tr_lastR (k := 35) I802 R804 (I802.up h_o0) q824 t_a825 (by decide) (by decide) (fun lo hi h => by cases h; exact (by decide)) (Or.inl (by decide)) d_TrustDeskModel_fund_118 (vp_in_iff.mpr (by have := R804.1 15 _ _ rfl; have := R804.1 16 _ _ rfl; have := R804.1 19 _ _ rfl; omega)) (fun M826 I827 K828 R829 E830 A831 V832 => ?_)
                      have z833 := (V832 15).trans z808
                      have z834 := (V832 16).trans z809
                      have z835 := (V832 17).trans z810
                      have z836 := (V832 19).trans z811
                      have z837 := (V832 22).trans z812
                      have z838 := (V832 24).trans z813
                      have z839 := (V832 27).trans z814
                      have z840 := (V832 32).trans z815
                      have z841 := (V832 49).trans z816
                      have z842 := (A831 5 (by decide) rfl 44).trans z817
                      have z843 := (A831 6 (by decide) rfl 44).trans z818
                      have z844 := (A831 6 (by decide) rfl ((20 + v741).toNatClampNeg)).trans z819
                      have K845 : rP M826 o0 := K820.same (sA_a A831 (by decide +kernel)) (sF_a V832)
                      have K846 : rB M826 o0 12 := K821.same (sA_a A831 (by decide +kernel)) (sF_a V832)
                      have K847 : sA [7] M743 M826 o0 := K822.trans (sA_a A831 (by decide +kernel))
                      have K848 : rC M826 o0 ((20 + v741).toNatClampNeg) := K823.same (sA_a A831 (by decide +kernel)) (sF_a V832)
                      clear z808 z809 z810 z812 z813 z814 z815 z816 z817 z818 z819
                      refine mv_aload_n d_TrustDeskModel_fund_119 rfl rfl ?_
                      obtain ⟨a850, q849, t_a850⟩ := tm_atR I827 t754 (k := 36) rfl
                      refine tr_getK q849 d_TrustDeskModel_fund_120 f_TrustDeskModel_76_13 ?_
                      refine mv_iload d_TrustDeskModel_fund_123 rfl ?_
                      refine mv_iconst (v := 0) d_TrustDeskModel_fund_125 (by decide) ?_
                      refine tr_iastR (k := 36) I827 R829 (I827.up h_o0) q849 t_a850 (by decide) (by decide) (fun lo hi h => by cases h) (Or.inl (by decide)) d_TrustDeskModel_fund_126 (vp_in_iff.mpr (by have := R829.1 15 _ _ rfl; have := R829.1 16 _ _ rfl; have := R829.1 19 _ _ rfl; omega)) (fun M851 I852 K853 R854 E855 A856 V857 => ?_)
                      have z858 := (V857 15).trans z833
                      have z859 := (V857 16).trans z834
                      have z860 := (V857 17).trans z835
                      have z861 := (V857 19).trans z836
                      have z862 := (V857 22).trans z837
                      have z863 := (V857 24).trans z838
                      have z864 := (V857 27).trans z839
                      have z865 := (V857 32).trans z840
                      have z866 := (V857 49).trans z841
                      have z867 := (A856 5 (by decide) rfl 44).trans z842
                      have z868 := (A856 6 (by decide) rfl 44).trans z843
                      have z869 := (A856 6 (by decide) rfl ((20 + v741).toNatClampNeg)).trans z844
                      have K870 : rP M851 o0 := K845.same (sA_a A856 (by decide +kernel)) (sF_a V857)
                      have K871 : rB M851 o0 12 := K846.same (sA_a A856 (by decide +kernel)) (sF_a V857)
                      have K872 : sA [7] M743 M851 o0 := K847.trans (sA_a A856 (by decide +kernel))
                      have K873 : rC M851 o0 ((20 + v741).toNatClampNeg) := K848.same (sA_a A856 (by decide +kernel)) (sF_a V857)
                      clear z833 z834 z835 z837 z838 z839 z840 z841 z842 z843 z844
                      refine mv_aload_n d_TrustDeskModel_fund_127 rfl rfl ?_
                      obtain ⟨a875, q874, t_a875⟩ := tm_atR I852 t754 (k := 37) rfl
                      refine tr_getK q874 d_TrustDeskModel_fund_128 f_TrustDeskModel_79_13 ?_
                      refine mv_iload d_TrustDeskModel_fund_131 rfl ?_
                      refine mv_iconst (v := (-1)) d_TrustDeskModel_fund_133 (by decide) ?_
                      refine tr_iastR (k := 37) I852 R854 (I852.up h_o0) q874 t_a875 (by decide) (by decide) (fun lo hi h => by cases h; exact (by decide)) (Or.inl (by decide)) d_TrustDeskModel_fund_134 (vp_in_iff.mpr (by have := R854.1 15 _ _ rfl; have := R854.1 16 _ _ rfl; have := R854.1 19 _ _ rfl; omega)) (fun M876 I877 K878 R879 E880 A881 V882 => ?_)
                      have z883 := (V882 15).trans z858
                      have z884 := (V882 16).trans z859
                      have z885 := (V882 17).trans z860
                      have z886 := (V882 19).trans z861
                      have z887 := (V882 22).trans z862
                      have z888 := (V882 24).trans z863
                      have z889 := (V882 27).trans z864
                      have z890 := (V882 32).trans z865
                      have z891 := (V882 49).trans z866
                      have z892 := (A881 5 (by decide) rfl 44).trans z867
                      have z893 := (A881 6 (by decide) rfl 44).trans z868
                      have z894 := (A881 6 (by decide) rfl ((20 + v741).toNatClampNeg)).trans z869
                      have K895 : rP M876 o0 := K870.out A881 E880 V882 (by have := mz_nat9 (i := v741) (by have := R854.1 15 _ _ rfl; have := R854.1 16 _ _ rfl; have := R854.1 19 _ _ rfl; omega); have := R854.1 15 _ _ rfl; have := R854.1 16 _ _ rfl; have := R854.1 19 _ _ rfl; omega)
                      have K896 : rB M876 o0 12 := K871.out A881 E880 V882 (by have := mz_nat9 (i := v741) (by have := R854.1 15 _ _ rfl; have := R854.1 16 _ _ rfl; have := R854.1 19 _ _ rfl; omega); have := R854.1 15 _ _ rfl; have := R854.1 16 _ _ rfl; have := R854.1 19 _ _ rfl; omega)
                      have K897 : sA [7] M743 M876 o0 := K872.trans (sA_a A881 (by decide +kernel))
                      have K898 : rC M876 o0 ((20 + v741).toNatClampNeg) := K873.same (sA_a A881 (by decide +kernel)) (sF_a V882)
                      have := (K871.2 v741.toNatClampNeg (by have := mz_nat9 (i := v741) (by have := R854.1 15 _ _ rfl; have := R854.1 16 _ _ rfl; have := R854.1 19 _ _ rfl; omega); have := R854.1 15 _ _ rfl; have := R854.1 16 _ _ rfl; have := R854.1 19 _ _ rfl; omega) (by have := mz_nat9 (i := v741) (by have := R854.1 15 _ _ rfl; have := R854.1 16 _ _ rfl; have := R854.1 19 _ _ rfl; omega); have := R854.1 15 _ _ rfl; have := R854.1 16 _ _ rfl; have := R854.1 19 _ _ rfl; omega)).1 (by have := mz_nat9 (i := v741) (by have := R854.1 15 _ _ rfl; have := R854.1 16 _ _ rfl; have := R854.1 19 _ _ rfl; omega); have := R854.1 15 _ _ rfl; have := R854.1 16 _ _ rfl; have := R854.1 19 _ _ rfl; omega)
                      have := A881 43 (by decide) rfl v741.toNatClampNeg
                      have : ra M876 o0 37 v741.toNatClampNeg = -1 := (E880 _).trans (if_pos rfl)
                      clear z858 z859 z860 z862 z863 z864 z865 z866 z867 z868 z869
                      refine mv_aload_n d_TrustDeskModel_fund_135 rfl rfl ?_
                      obtain ⟨a900, q899, t_a900⟩ := tm_atR I877 t754 (k := 38) rfl
                      refine tr_getK q899 d_TrustDeskModel_fund_136 f_TrustDeskModel_82_13 ?_
                      refine mv_iload d_TrustDeskModel_fund_139 rfl ?_
                      refine mv_bipush (v := 7) d_TrustDeskModel_fund_141 (by decide) ?_
                      refine tr_iastR (k := 38) I877 R879 (I877.up h_o0) q899 t_a900 (by decide) (by decide) (fun lo hi h => by cases h) (Or.inl (by decide)) d_TrustDeskModel_fund_143 (vp_in_iff.mpr (by have := R879.1 15 _ _ rfl; have := R879.1 16 _ _ rfl; have := R879.1 19 _ _ rfl; omega)) (fun M901 I902 K903 R904 E905 A906 V907 => ?_)
                      have z908 := (V907 15).trans z883
                      have z909 := (V907 16).trans z884
                      have z910 := (V907 17).trans z885
                      have z911 := (V907 19).trans z886
                      have z912 := (V907 22).trans z887
                      have z913 := (V907 24).trans z888
                      have z914 := (V907 27).trans z889
                      have z915 := (V907 32).trans z890
                      have z916 := (V907 49).trans z891
                      have z917 := (A906 5 (by decide) rfl 44).trans z892
                      have z918 := (A906 6 (by decide) rfl 44).trans z893
                      have z919 := (A906 6 (by decide) rfl ((20 + v741).toNatClampNeg)).trans z894
                      have z920 := (A906 43 (by decide) rfl v741.toNatClampNeg)
                      have z921 := (A906 37 (by decide) rfl v741.toNatClampNeg)
                      have K922 : rP M901 o0 := K895.same (sA_a A906 (by decide +kernel)) (sF_a V907)
                      have K923 : rB M901 o0 12 := K896.same (sA_a A906 (by decide +kernel)) (sF_a V907)
                      have K924 : sA [7] M743 M901 o0 := K897.trans (sA_a A906 (by decide +kernel))
                      have K925 : rC M901 o0 ((20 + v741).toNatClampNeg) := K898.same (sA_a A906 (by decide +kernel)) (sF_a V907)
                      clear z883 z884 z885 z887 z888 z889 z890 z891 z892 z893 z894
                      refine mv_aload_n d_TrustDeskModel_fund_144 rfl rfl ?_
                      obtain ⟨a927, q926, t_a927⟩ := tm_atR I902 t754 (k := 39) rfl
                      refine tr_getK q926 d_TrustDeskModel_fund_145 f_TrustDeskModel_85_13 ?_
                      refine mv_iload d_TrustDeskModel_fund_148 rfl ?_
                      refine mv_iconst (v := 1) d_TrustDeskModel_fund_150 (by decide) ?_
                      refine tr_iastR (k := 39) I902 R904 (I902.up h_o0) q926 t_a927 (by decide) (by decide) (fun lo hi h => by cases h) (Or.inl (by decide)) d_TrustDeskModel_fund_151 (vp_in_iff.mpr (by have := R904.1 15 _ _ rfl; have := R904.1 16 _ _ rfl; have := R904.1 19 _ _ rfl; omega)) (fun M928 I929 K930 R931 E932 A933 V934 => ?_)
                      have z935 := (V934 15).trans z908
                      have z936 := (V934 16).trans z909
                      have z937 := (V934 17).trans z910
                      have z938 := (V934 19).trans z911
                      have z939 := (V934 22).trans z912
                      have z940 := (V934 24).trans z913
                      have z941 := (V934 27).trans z914
                      have z942 := (V934 32).trans z915
                      have z943 := (V934 49).trans z916
                      have z944 := (A933 5 (by decide) rfl 44).trans z917
                      have z945 := (A933 6 (by decide) rfl 44).trans z918
                      have z946 := (A933 6 (by decide) rfl ((20 + v741).toNatClampNeg)).trans z919
                      have z947 := (A933 43 (by decide) rfl v741.toNatClampNeg).trans z920
                      have z948 := (A933 37 (by decide) rfl v741.toNatClampNeg).trans z921
                      have K949 : rP M928 o0 := K922.same (sA_a A933 (by decide +kernel)) (sF_a V934)
                      have K950 : rB M928 o0 12 := K923.same (sA_a A933 (by decide +kernel)) (sF_a V934)
                      have K951 : sA [7] M743 M928 o0 := K924.trans (sA_a A933 (by decide +kernel))
                      have K952 : rC M928 o0 ((20 + v741).toNatClampNeg) := K925.same (sA_a A933 (by decide +kernel)) (sF_a V934)
                      clear z908 z909 z910 z912 z913 z914 z915 z916 z917 z918 z919 z920 z921
                      refine mv_iconst (v := 0) d_TrustDeskModel_fund_152 (by decide) ?_
                      refine mv_istore (lv' := [(6, .int 0), (5, .int v741), (4, .int v750), (3, .int (20 + v741)), (0, .ref o0), (1, .int x1), (2, .int x2)]) d_TrustDeskModel_fund_153 (by decide) rfl ?_
                      have L155_953 : ∀ (k : Nat) (i6_953 : Int32) (T_953 : tm_H) (M_953 : mj_M) (n_953 : Nat), tm_I tm_FT (tm_in w_TrustDeskModel_fund_x) x9 T0 M0 n0 T_953 M_953 n_953 → T_953 o0 = some (0, 13, 0) → 0 ≤ i6_953.toInt → rv M_953 o0 27 = rv M0 o0 27 → rv M_953 o0 32 = rv M0 o0 32 → rv M_953 o0 49 = rv M0 o0 49 → ra M_953 o0 6 (20 + v741).toNatClampNeg = ra M743 o0 6 (20 + v741).toNatClampNeg → ra M_953 o0 37 (v741).toNatClampNeg = -1 → ra M_953 o0 43 (v741).toNatClampNeg ≤ i6_953.toInt → ra M_953 o0 43 (v741).toNatClampNeg ≤ kc M743 o0 (20 * (20 + v741).toNatClampNeg) (i6_953.toInt).toNat → i6_953.toInt ≤ ra M743 o0 6 (20 + v741).toNatClampNeg → (rI M_953 o0) → (rP M_953 o0) → (rB M_953 o0 v741.toNatClampNeg) → (sA [7] M743 M_953 o0) → (rC M_953 o0 ((20 + v741).toNatClampNeg)) → 2147483647 - i6_953.toInt < (k : Int) → mj_V g l kY_TrustDeskModel_fund (d + 27) 155 [(6, .int i6_953), (5, .int v741), (4, .int v750), (3, .int (20 + v741)), (0, .ref o0), (1, .int x1), (2, .int x2)] [] M_953 n_953 0 0 (tm_Q tm_FT (tm_in w_TrustDeskModel_fund_x) x9 T0 M0 n0 (fun r _ M => ∃ v : Int32, r = some (.int v) ∧ rI M o0 ∧ (rC M o0 44) ∧ (rP M o0) ∧ (rB M o0 12) ∧ (rv M0 o0 32 ≤ rv M o0 32))) := by
                        intro k953
                        induction k953 with
                        | zero =>
                          intro i6_953 T_953 M_953 n_953 I_953 h_q0_953 iv0_953 iv1_953 iv2_953 iv3_953 iv4_953 iv5_953 iv6_953 iv7_953 iv8_953 kKR_953 kKP_953 kKB_953 kKY_953 kKC_953 hk953
                          have := mz_hi i6_953
                          have := kKR_953.1 15 _ _ rfl
                          have := kKR_953.1 16 _ _ rfl
                          have := kKR_953.1 19 _ _ rfl
                          omega
                        | succ k953 ih953 =>
                          intro i6_953 T_953 M_953 n_953 I_953 h_q0_953 iv0_953 iv1_953 iv2_953 iv3_953 iv4_953 iv5_953 iv6_953 iv7_953 iv8_953 kKR_953 kKP_953 kKB_953 kKY_953 kKC_953 hk953
                          have := kc_two (M := M743) (o := o0) (b := 20 * (20 + v741).toNatClampNeg) (n := i6_953.toInt.toNat)
                          refine mv_iload d_TrustDeskModel_fund_155 rfl ?_
                          refine mv_aload_n d_TrustDeskModel_fund_157 rfl rfl ?_
                          obtain ⟨a955, q954, t_a955⟩ := tm_atR I_953 h_q0_953 (k := 6) rfl
                          refine tr_getK q954 d_TrustDeskModel_fund_158 f_TrustDeskModel_23_13 ?_
                          refine mv_iload_n d_TrustDeskModel_fund_161 rfl rfl ?_
                          have b956 : (20 + v741 : Int32).toInt = (20 + v741.toInt) := mz_add2 (by decide) rfl (by have := kKR_953.1 15 _ _ rfl; have := kKR_953.1 16 _ _ rfl; have := kKR_953.1 19 _ _ rfl; omega) (by have := kKR_953.1 15 _ _ rfl; have := kKR_953.1 16 _ _ rfl; have := kKR_953.1 19 _ _ rfl; omega)
                          refine tr_ialdR (o := o0) (k := 6) I_953 q954 t_a955 (by decide) d_TrustDeskModel_fund_162 (vp_in_iff.mpr (by have := kKR_953.1 15 _ _ rfl; have := kKR_953.1 16 _ _ rfl; have := kKR_953.1 19 _ _ rfl; omega)) (fun v957 e958 => ?_)
                          have := kKR_953.a (k := 6) rfl ((20 + v741) : Int32).toNatClampNeg
                          have : v957.toInt = ra M_953 o0 6 (20 + v741).toNatClampNeg := e958
                          have := mz_hi i6_953
                          have := mz_hi v957
                          refine mv_icmp_geZ (tgt := 274) (a := i6_953.toInt) (b := v957.toInt) d_TrustDeskModel_fund_163 (by decide) rfl rfl (fun b959 => ?_) (fun b959 => ?_)
                          · refine mv_aload_n d_TrustDeskModel_fund_274 rfl rfl ?_
                            obtain ⟨a961, q960, t_a961⟩ := tm_atR I_953 h_q0_953 (k := 41) rfl
                            refine tr_getK q960 d_TrustDeskModel_fund_275 f_TrustDeskModel_92_13 ?_
                            refine mv_bipush (v := 12) d_TrustDeskModel_fund_278 (by decide) ?_
                            refine mv_iload d_TrustDeskModel_fund_280 rfl ?_
                            refine mv_imul d_TrustDeskModel_fund_282 ?_
                            refine mv_iload d_TrustDeskModel_fund_283 rfl ?_
                            refine mv_iadd d_TrustDeskModel_fund_285 ?_
                            refine mv_ldcw d_TrustDeskModel_fund_286 k_TrustDeskModel_432 ?_
                            have b962 : (12 * v741 : Int32).toInt = (12 * v741.toInt) := mz_mul2 (by decide) rfl (by have := kKR_953.1 15 _ _ rfl; have := kKR_953.1 16 _ _ rfl; have := kKR_953.1 19 _ _ rfl; omega) (by have := kKR_953.1 15 _ _ rfl; have := kKR_953.1 16 _ _ rfl; have := kKR_953.1 19 _ _ rfl; omega)
                            have b963 : ((12 * v741) + v741 : Int32).toInt = ((12 * v741.toInt) + v741.toInt) := mz_add2 b962 rfl (by have := kKR_953.1 15 _ _ rfl; have := kKR_953.1 16 _ _ rfl; have := kKR_953.1 19 _ _ rfl; omega) (by have := kKR_953.1 15 _ _ rfl; have := kKR_953.1 16 _ _ rfl; have := kKR_953.1 19 _ _ rfl; omega)
                            refine tr_iastR (k := 41) I_953 kKR_953 (I_953.up h_o0) q960 t_a961 (by decide) (by decide) (fun lo hi h => by cases h; exact (by decide)) (Or.inl (by decide)) d_TrustDeskModel_fund_289 (vp_in_iff.mpr (by have := kKR_953.1 15 _ _ rfl; have := kKR_953.1 16 _ _ rfl; have := kKR_953.1 19 _ _ rfl; omega)) (fun M964 I965 K966 R967 E968 A969 V970 => ?_)
                            have z971 := (V970 15)
                            have z972 := (V970 16)
                            have z973 := (V970 17)
                            have z974 := (V970 19)
                            have z975 := (V970 22)
                            have z976 := (V970 24)
                            have z977 := (V970 27)
                            have z978 := (V970 32)
                            have z979 := (V970 49)
                            have z980 := (A969 5 (by decide) rfl 44)
                            have z981 := (A969 6 (by decide) rfl 44)
                            have z982 := (A969 6 (by decide) rfl ((20 + v741).toNatClampNeg))
                            have z983 := (A969 43 (by decide) rfl v741.toNatClampNeg)
                            have z984 := (A969 37 (by decide) rfl v741.toNatClampNeg)
                            have K985 : sA [7] M743 M964 o0 := kKY_953.trans (sA_a A969 (by decide +kernel))
                            have K986 : rC M964 o0 ((20 + v741).toNatClampNeg) := kKC_953.same (sA_a A969 (by decide +kernel)) (sF_a V970)
                            have : kc M743 o0 (20 * (20 + v741).toNatClampNeg) i6_953.toInt.toNat ≤ 6 := by rw [show i6_953.toInt.toNat = (ra M_56 o0 6 44).toNat from by omega]; exact h767 (by omega)
                            refine mv_aload_n d_TrustDeskModel_fund_290 rfl rfl ?_
                            refine mv_dup d_TrustDeskModel_fund_291 rfl ?_
                            obtain ⟨v988, q987⟩ := tm_atI I965 h_q0_953 (k := 32) rfl
                            refine tr_getK q987 d_TrustDeskModel_fund_292 f_TrustDeskModel_415_13 ?_
                            have := R967.f (k := 32) q987 rfl
                            have := (tm_rv q987).symm.trans z978
                            have := tm_rv q987
                            refine mv_iconst (v := 1) d_TrustDeskModel_fund_295 (by decide) ?_
                            refine mv_iadd d_TrustDeskModel_fund_296 ?_
                            have b989 : (v988 + 1 : Int32).toInt = (v988.toInt + 1) := mz_add2 rfl (by decide) (by have := R967.1 15 _ _ rfl; have := R967.1 16 _ _ rfl; have := R967.1 19 _ _ rfl; omega) (by have := R967.1 15 _ _ rfl; have := R967.1 16 _ _ rfl; have := R967.1 19 _ _ rfl; omega)
                            refine tr_putR (k := 32) I965 R967 h_q0_953 rfl ⟨_, rfl⟩ (fun _ h => by cases h) rfl (fun lo hi h => by cases h; have := R967.1 15 _ _ rfl; have := R967.1 16 _ _ rfl; have := R967.1 19 _ _ rfl; exact ⟨by show (0 : Int) ≤ (v988 + 1).toInt; omega, by show (v988 + 1).toInt ≤ (12 : Int); omega⟩) (Or.inl (by decide)) d_TrustDeskModel_fund_297 p_TrustDeskModel_415_13 rfl rfl (fun M990 I991 q992 K993 R994 A995 V996 => ?_)
                            have z997 := (V996 15 (by decide)).trans z971
                            have z998 := (V996 16 (by decide)).trans z972
                            have z999 := (V996 17 (by decide)).trans z973
                            have z1000 := (V996 19 (by decide)).trans z974
                            have z1001 := (V996 22 (by decide)).trans z975
                            have z1002 := (V996 24 (by decide)).trans z976
                            have z1003 := (V996 27 (by decide)).trans z977
                            have z1004 := (V996 49 (by decide)).trans z979
                            have z1005 := (A995 5 (by decide) 44).trans z980
                            have z1006 := (A995 6 (by decide) 44).trans z981
                            have z1007 := (A995 6 (by decide) ((20 + v741).toNatClampNeg)).trans z982
                            have z1008 := (A995 43 (by decide) v741.toNatClampNeg).trans z983
                            have z1009 := (A995 37 (by decide) v741.toNatClampNeg).trans z984
                            have z1010 : rv M990 o0 32 = (v988 + 1).toInt := tm_rv q992
                            have K1011 : sA [7] M743 M990 o0 := K985.trans (sA_f A995 (by decide))
                            have K1012 : rC M990 o0 44 := rC.fund K986 A995 V996 (by have := mz_nat9 (i := (20 + v741)) (by have := R967.1 15 _ _ rfl; have := R967.1 16 _ _ rfl; have := R967.1 19 _ _ rfl; omega); have := R967.1 15 _ _ rfl; have := R967.1 16 _ _ rfl; have := R967.1 19 _ _ rfl; omega) (by have := R967.1 15 _ _ rfl; have := R967.1 16 _ _ rfl; have := R967.1 19 _ _ rfl; omega) (by have := R967.1 15 _ _ rfl; have := R967.1 16 _ _ rfl; have := R967.1 19 _ _ rfl; omega) (by have := R967.1 15 _ _ rfl; have := R967.1 16 _ _ rfl; have := R967.1 19 _ _ rfl; omega)
                            have h1013 := rPB.fund kKP_953 kKB_953 (by have := mz_nat9 (i := v741) (by have := R967.1 15 _ _ rfl; have := R967.1 16 _ _ rfl; have := R967.1 19 _ _ rfl; omega); have := R967.1 15 _ _ rfl; have := R967.1 16 _ _ rfl; have := R967.1 19 _ _ rfl; omega) E968 (by have := mz_nat9 (i := ((12 * v741) + v741)) (by have := R967.1 15 _ _ rfl; have := R967.1 16 _ _ rfl; have := R967.1 19 _ _ rfl; omega); have := R967.1 15 _ _ rfl; have := R967.1 16 _ _ rfl; have := R967.1 19 _ _ rfl; omega) A969 V970 A995 (by have := R967.1 15 _ _ rfl; have := R967.1 16 _ _ rfl; have := R967.1 19 _ _ rfl; omega) (by have := R967.1 15 _ _ rfl; have := R967.1 16 _ _ rfl; have := R967.1 19 _ _ rfl; omega) (by have := R967.1 15 _ _ rfl; have := R967.1 16 _ _ rfl; have := R967.1 19 _ _ rfl; omega) (by have := R967.1 15 _ _ rfl; have := R967.1 16 _ _ rfl; have := R967.1 19 _ _ rfl; omega)
                            have K1014 : rP M990 o0 := h1013.1
                            have K1015 : rB M990 o0 12 := h1013.2
                            clear z971 z972 z973 z975 z976 z977 z979 z980 z981 z982 z983 z984
                            refine mv_iload d_TrustDeskModel_fund_300 rfl ?_
                            exact mv_iret d_TrustDeskModel_fund_302 rfl (by first | rfl | decide) ⟨_, I991, _, rfl, R994, K1012, K1014, K1015, (by have := R994.1 15 _ _ rfl; have := R994.1 16 _ _ rfl; have := R994.1 19 _ _ rfl; omega)⟩
                          · refine mv_bipush (v := 20) d_TrustDeskModel_fund_166 (by decide) ?_
                            refine mv_iload_n d_TrustDeskModel_fund_168 rfl rfl ?_
                            refine mv_imul d_TrustDeskModel_fund_169 ?_
                            refine mv_iload d_TrustDeskModel_fund_170 rfl ?_
                            refine mv_iadd d_TrustDeskModel_fund_172 ?_
                            refine mv_istore (lv' := [(7, .int ((20 * (20 + v741)) + i6_953)), (6, .int i6_953), (5, .int v741), (4, .int v750), (3, .int (20 + v741)), (0, .ref o0), (1, .int x1), (2, .int x2)]) d_TrustDeskModel_fund_173 (by decide) rfl ?_
                            refine mv_aload_n d_TrustDeskModel_fund_175 rfl rfl ?_
                            obtain ⟨a1017, q1016, t_a1017⟩ := tm_atR I_953 h_q0_953 (k := 7) rfl
                            refine tr_getK q1016 d_TrustDeskModel_fund_176 f_TrustDeskModel_26_13 ?_
                            refine mv_iload d_TrustDeskModel_fund_179 rfl ?_
                            have b1018 : (20 + v741 : Int32).toInt = (20 + v741.toInt) := mz_add2 (by decide) rfl (by have := kKR_953.1 15 _ _ rfl; have := kKR_953.1 16 _ _ rfl; have := kKR_953.1 19 _ _ rfl; omega) (by have := kKR_953.1 15 _ _ rfl; have := kKR_953.1 16 _ _ rfl; have := kKR_953.1 19 _ _ rfl; omega)
                            have b1019 : (20 * (20 + v741) : Int32).toInt = (20 * (20 + v741.toInt)) := mz_mul2 (by decide) b1018 (by have := kKR_953.1 15 _ _ rfl; have := kKR_953.1 16 _ _ rfl; have := kKR_953.1 19 _ _ rfl; omega) (by have := kKR_953.1 15 _ _ rfl; have := kKR_953.1 16 _ _ rfl; have := kKR_953.1 19 _ _ rfl; omega)
                            have b1020 : ((20 * (20 + v741)) + i6_953 : Int32).toInt = ((20 * (20 + v741.toInt)) + i6_953.toInt) := mz_add2 b1019 rfl (by have := kKR_953.1 15 _ _ rfl; have := kKR_953.1 16 _ _ rfl; have := kKR_953.1 19 _ _ rfl; omega) (by have := kKR_953.1 15 _ _ rfl; have := kKR_953.1 16 _ _ rfl; have := kKR_953.1 19 _ _ rfl; omega)
                            refine tr_ialdR (o := o0) (k := 7) I_953 q1016 t_a1017 (by decide) d_TrustDeskModel_fund_181 (vp_in_iff.mpr (by have := kKR_953.1 15 _ _ rfl; have := kKR_953.1 16 _ _ rfl; have := kKR_953.1 19 _ _ rfl; omega)) (fun v1021 e1022 => ?_)
                            have h1023 : ((20 * (20 + v741)) + i6_953).toNatClampNeg = 20 * (20 + v741).toNatClampNeg + i6_953.toInt.toNat := by have := mz_nat9 (i := ((20 * (20 + v741)) + i6_953)) (by have := kKR_953.1 15 _ _ rfl; have := kKR_953.1 16 _ _ rfl; have := kKR_953.1 19 _ _ rfl; omega); have := mz_nat9 (i := (20 + v741)) (by have := kKR_953.1 15 _ _ rfl; have := kKR_953.1 16 _ _ rfl; have := kKR_953.1 19 _ _ rfl; omega); have := kKR_953.1 15 _ _ rfl; have := kKR_953.1 16 _ _ rfl; have := kKR_953.1 19 _ _ rfl; omega
                            have : v1021.toInt = ra M743 o0 7 (20 * (20 + v741).toNatClampNeg + i6_953.toInt.toNat) := by have e9 := kKY_953 7 rfl; rw [← e9, e1022, h1023]
                            refine mv_bipush (v := 7) d_TrustDeskModel_fund_182 (by decide) ?_
                            have := mz_hi v1021
                            refine mv_icmp_neZ (tgt := 204) (a := v1021.toInt) (b := 7) d_TrustDeskModel_fund_184 (by decide) rfl (by decide) (fun b1024 => ?_) (fun b1024 => ?_)
                            · refine mv_aload_n d_TrustDeskModel_fund_204 rfl rfl ?_
                              refine tr_getK (k := 7) q1016 d_TrustDeskModel_fund_205 f_TrustDeskModel_26_13 ?_
                              refine mv_iload d_TrustDeskModel_fund_208 rfl ?_
                              have b1025 : (20 + v741 : Int32).toInt = (20 + v741.toInt) := mz_add2 (by decide) rfl (by have := kKR_953.1 15 _ _ rfl; have := kKR_953.1 16 _ _ rfl; have := kKR_953.1 19 _ _ rfl; omega) (by have := kKR_953.1 15 _ _ rfl; have := kKR_953.1 16 _ _ rfl; have := kKR_953.1 19 _ _ rfl; omega)
                              have b1026 : (20 * (20 + v741) : Int32).toInt = (20 * (20 + v741.toInt)) := mz_mul2 (by decide) b1025 (by have := kKR_953.1 15 _ _ rfl; have := kKR_953.1 16 _ _ rfl; have := kKR_953.1 19 _ _ rfl; omega) (by have := kKR_953.1 15 _ _ rfl; have := kKR_953.1 16 _ _ rfl; have := kKR_953.1 19 _ _ rfl; omega)
                              have b1027 : ((20 * (20 + v741)) + i6_953 : Int32).toInt = ((20 * (20 + v741.toInt)) + i6_953.toInt) := mz_add2 b1026 rfl (by have := kKR_953.1 15 _ _ rfl; have := kKR_953.1 16 _ _ rfl; have := kKR_953.1 19 _ _ rfl; omega) (by have := kKR_953.1 15 _ _ rfl; have := kKR_953.1 16 _ _ rfl; have := kKR_953.1 19 _ _ rfl; omega)
                              refine tr_ialdR (o := o0) (k := 7) I_953 q1016 t_a1017 (by decide) d_TrustDeskModel_fund_210 (vp_in_iff.mpr (by have := kKR_953.1 15 _ _ rfl; have := kKR_953.1 16 _ _ rfl; have := kKR_953.1 19 _ _ rfl; omega)) (fun v1028 e1029 => ?_)
                              have h1030 : ((20 * (20 + v741)) + i6_953).toNatClampNeg = 20 * (20 + v741).toNatClampNeg + i6_953.toInt.toNat := by have := mz_nat9 (i := ((20 * (20 + v741)) + i6_953)) (by have := kKR_953.1 15 _ _ rfl; have := kKR_953.1 16 _ _ rfl; have := kKR_953.1 19 _ _ rfl; omega); have := mz_nat9 (i := (20 + v741)) (by have := kKR_953.1 15 _ _ rfl; have := kKR_953.1 16 _ _ rfl; have := kKR_953.1 19 _ _ rfl; omega); have := kKR_953.1 15 _ _ rfl; have := kKR_953.1 16 _ _ rfl; have := kKR_953.1 19 _ _ rfl; omega
                              have : v1028.toInt = ra M743 o0 7 (20 * (20 + v741).toNatClampNeg + i6_953.toInt.toNat) := by have e9 := kKY_953 7 rfl; rw [← e9, e1029, h1030]
                              refine mv_bipush (v := 9) d_TrustDeskModel_fund_211 (by decide) ?_
                              have := mz_hi v1028
                              refine mv_icmp_neZ (tgt := 244) (a := v1028.toInt) (b := 9) d_TrustDeskModel_fund_213 (by decide) rfl (by decide) (fun b1031 => ?_) (fun b1031 => ?_)
                              · refine mv_aload_n d_TrustDeskModel_fund_244 rfl rfl ?_
                                refine tr_getK (k := 7) q1016 d_TrustDeskModel_fund_245 f_TrustDeskModel_26_13 ?_
                                refine mv_iload d_TrustDeskModel_fund_248 rfl ?_
                                have b1032 : (20 + v741 : Int32).toInt = (20 + v741.toInt) := mz_add2 (by decide) rfl (by have := kKR_953.1 15 _ _ rfl; have := kKR_953.1 16 _ _ rfl; have := kKR_953.1 19 _ _ rfl; omega) (by have := kKR_953.1 15 _ _ rfl; have := kKR_953.1 16 _ _ rfl; have := kKR_953.1 19 _ _ rfl; omega)
                                have b1033 : (20 * (20 + v741) : Int32).toInt = (20 * (20 + v741.toInt)) := mz_mul2 (by decide) b1032 (by have := kKR_953.1 15 _ _ rfl; have := kKR_953.1 16 _ _ rfl; have := kKR_953.1 19 _ _ rfl; omega) (by have := kKR_953.1 15 _ _ rfl; have := kKR_953.1 16 _ _ rfl; have := kKR_953.1 19 _ _ rfl; omega)
                                have b1034 : ((20 * (20 + v741)) + i6_953 : Int32).toInt = ((20 * (20 + v741.toInt)) + i6_953.toInt) := mz_add2 b1033 rfl (by have := kKR_953.1 15 _ _ rfl; have := kKR_953.1 16 _ _ rfl; have := kKR_953.1 19 _ _ rfl; omega) (by have := kKR_953.1 15 _ _ rfl; have := kKR_953.1 16 _ _ rfl; have := kKR_953.1 19 _ _ rfl; omega)
                                refine tr_ialdR (o := o0) (k := 7) I_953 q1016 t_a1017 (by decide) d_TrustDeskModel_fund_250 (vp_in_iff.mpr (by have := kKR_953.1 15 _ _ rfl; have := kKR_953.1 16 _ _ rfl; have := kKR_953.1 19 _ _ rfl; omega)) (fun v1035 e1036 => ?_)
                                have h1037 : ((20 * (20 + v741)) + i6_953).toNatClampNeg = 20 * (20 + v741).toNatClampNeg + i6_953.toInt.toNat := by have := mz_nat9 (i := ((20 * (20 + v741)) + i6_953)) (by have := kKR_953.1 15 _ _ rfl; have := kKR_953.1 16 _ _ rfl; have := kKR_953.1 19 _ _ rfl; omega); have := mz_nat9 (i := (20 + v741)) (by have := kKR_953.1 15 _ _ rfl; have := kKR_953.1 16 _ _ rfl; have := kKR_953.1 19 _ _ rfl; omega); have := kKR_953.1 15 _ _ rfl; have := kKR_953.1 16 _ _ rfl; have := kKR_953.1 19 _ _ rfl; omega
                                have : v1035.toInt = ra M743 o0 7 (20 * (20 + v741).toNatClampNeg + i6_953.toInt.toNat) := by have e9 := kKY_953 7 rfl; rw [← e9, e1036, h1037]
                                refine mv_bipush (v := 8) d_TrustDeskModel_fund_251 (by decide) ?_
                                have := mz_hi v1035
                                refine mv_icmp_neZ (tgt := 268) (a := v1035.toInt) (b := 8) d_TrustDeskModel_fund_253 (by decide) rfl (by decide) (fun b1038 => ?_) (fun b1038 => ?_)
                                · refine mv_iinc (v := (i6_953 + 1)) (lv' := [(6, .int (i6_953 + 1)), (7, .int ((20 * (20 + v741)) + i6_953)), (5, .int v741), (4, .int v750), (3, .int (20 + v741)), (0, .ref o0), (1, .int x1), (2, .int x2)]) d_TrustDeskModel_fund_268 rfl rfl (by decide) rfl ?_
                                  refine mv_goto (tgt := 155) d_TrustDeskModel_fund_271 (by decide) ?_
                                  have b1039 : (i6_953 + 1 : Int32).toInt = (i6_953.toInt + 1) := mz_add2 rfl (by decide) (by have := kKR_953.1 15 _ _ rfl; have := kKR_953.1 16 _ _ rfl; have := kKR_953.1 19 _ _ rfl; omega) (by have := kKR_953.1 15 _ _ rfl; have := kKR_953.1 16 _ _ rfl; have := kKR_953.1 19 _ _ rfl; omega)
                                  refine mv_locals (lv' := [(6, .int (i6_953 + 1)), (5, .int v741), (4, .int v750), (3, .int (20 + v741)), (0, .ref o0), (1, .int x1), (2, .int x2)]) (by intro q hq; simp only [List.mem_cons, List.not_mem_nil, or_false] at hq; rcases hq with rfl | rfl | rfl | rfl | rfl | rfl | rfl <;> rfl) ?_
                                  have b1040 : (i6_953 + 1).toInt = i6_953.toInt + 1 := mz_addn 1 1 (by decide) (by have := mz_lo i6_953; omega) (by have := mz_hi i6_953; omega)
                                  exact (ih953 (i6_953 + 1) T_953 M_953 n_953 I_953 h_q0_953 (by have := kKR_953.1 15 _ _ rfl; have := kKR_953.1 16 _ _ rfl; have := kKR_953.1 19 _ _ rfl; first | omega | decide | exact fun h9 => absurd (by decide) h9) (by have := kKR_953.1 15 _ _ rfl; have := kKR_953.1 16 _ _ rfl; have := kKR_953.1 19 _ _ rfl; first | omega | decide | exact fun h9 => absurd (by decide) h9) (by have := kKR_953.1 15 _ _ rfl; have := kKR_953.1 16 _ _ rfl; have := kKR_953.1 19 _ _ rfl; first | omega | decide | exact fun h9 => absurd (by decide) h9) (by have := kKR_953.1 15 _ _ rfl; have := kKR_953.1 16 _ _ rfl; have := kKR_953.1 19 _ _ rfl; first | omega | decide | exact fun h9 => absurd (by decide) h9) (by have := kKR_953.1 15 _ _ rfl; have := kKR_953.1 16 _ _ rfl; have := kKR_953.1 19 _ _ rfl; first | omega | decide | exact fun h9 => absurd (by decide) h9) (by have := kKR_953.1 15 _ _ rfl; have := kKR_953.1 16 _ _ rfl; have := kKR_953.1 19 _ _ rfl; first | omega | decide | exact fun h9 => absurd (by decide) h9) (by have := kKR_953.1 15 _ _ rfl; have := kKR_953.1 16 _ _ rfl; have := kKR_953.1 19 _ _ rfl; first | omega | decide | exact fun h9 => absurd (by decide) h9) (by rw [show (i6_953 + 1 : Int32).toInt.toNat = i6_953.toInt.toNat + 1 from by omega]; have := kKR_953.1 15 _ _ rfl; have := kKR_953.1 16 _ _ rfl; have := kKR_953.1 19 _ _ rfl; omega) (by have := kKR_953.1 15 _ _ rfl; have := kKR_953.1 16 _ _ rfl; have := kKR_953.1 19 _ _ rfl; first | omega | decide | exact fun h9 => absurd (by decide) h9) kKR_953 kKP_953 kKB_953 kKY_953 kKC_953 (by have := kKR_953.1 15 _ _ rfl; have := kKR_953.1 16 _ _ rfl; have := kKR_953.1 19 _ _ rfl; omega))
                                · refine mv_aload_n d_TrustDeskModel_fund_256 rfl rfl ?_
                                  refine mv_iload d_TrustDeskModel_fund_257 rfl ?_
                                  refine mv_iload_n d_TrustDeskModel_fund_259 rfl rfl ?_
                                  refine mv_iload d_TrustDeskModel_fund_260 rfl ?_
                                  refine mv_iconst (v := 0) d_TrustDeskModel_fund_262 (by decide) ?_
                                  refine mv_iconst (v := 0) d_TrustDeskModel_fund_263 (by decide) ?_
                                  refine mv_iconst (v := (-1)) d_TrustDeskModel_fund_264 (by decide) ?_
                                  obtain ⟨_, b1047, -⟩ := I_953.1 _ _ h_q0_953
                                  have b1048 : (20 + v741 : Int32).toInt = (20 + v741.toInt) := mz_add2 (by decide) rfl (by have := kKR_953.1 15 _ _ rfl; have := kKR_953.1 16 _ _ rfl; have := kKR_953.1 19 _ _ rfl; omega) (by have := kKR_953.1 15 _ _ rfl; have := kKR_953.1 16 _ _ rfl; have := kKR_953.1 19 _ _ rfl; omega)
                                  have b1049 : (20 + v741 : Int32).toInt = (20 + v741.toInt) := mz_add2 (by decide) rfl (by have := kKR_953.1 15 _ _ rfl; have := kKR_953.1 16 _ _ rfl; have := kKR_953.1 19 _ _ rfl; omega) (by have := kKR_953.1 15 _ _ rfl; have := kKR_953.1 16 _ _ rfl; have := kKR_953.1 19 _ _ rfl; omega)
                                  have b1050 : (20 * (20 + v741) : Int32).toInt = (20 * (20 + v741.toInt)) := mz_mul2 (by decide) b1049 (by have := kKR_953.1 15 _ _ rfl; have := kKR_953.1 16 _ _ rfl; have := kKR_953.1 19 _ _ rfl; omega) (by have := kKR_953.1 15 _ _ rfl; have := kKR_953.1 16 _ _ rfl; have := kKR_953.1 19 _ _ rfl; omega)
                                  have b1051 : ((20 * (20 + v741)) + i6_953 : Int32).toInt = ((20 * (20 + v741.toInt)) + i6_953.toInt) := mz_add2 b1050 rfl (by have := kKR_953.1 15 _ _ rfl; have := kKR_953.1 16 _ _ rfl; have := kKR_953.1 19 _ _ rfl; omega) (by have := kKR_953.1 15 _ _ rfl; have := kKR_953.1 16 _ _ rfl; have := kKR_953.1 19 _ _ rfl; omega)
                                  have : (0 : Int32).toInt = 0 := by decide
                                  have : (0 : Int32).toInt = 0 := by decide
                                  have : ((-1) : Int32).toInt = (-1) := by decide
                                  refine mv_callV (kc' := 0) (ks' := 0) (As := [.int v741, .int (20 + v741), .int ((20 * (20 + v741)) + i6_953), .int 0, .int 0, .int (-1)]) (st9 := [.int (-1), .int 0, .int 0, .int ((20 * (20 + v741)) + i6_953), .int (20 + v741), .int v741, .ref o0]) d_TrustDeskModel_fund_265 lV_TrustDeskModel_428 b1047 rfl (tc_TrustDeskModel_addEnd_x (d := (d + 26)) (x9 := x9) (o0 := o0) (x1 := v741) (x2 := (20 + v741)) (x3 := ((20 * (20 + v741)) + i6_953)) (x4 := 0) (x5 := 0) (x6 := (-1)) h_q0_953 (by have := kKR_953.1 15 _ _ rfl; have := kKR_953.1 16 _ _ rfl; have := kKR_953.1 19 _ _ rfl; omega) (by have := kKR_953.1 15 _ _ rfl; have := kKR_953.1 16 _ _ rfl; have := kKR_953.1 19 _ _ rfl; omega) (by have := kKR_953.1 15 _ _ rfl; have := kKR_953.1 16 _ _ rfl; have := kKR_953.1 19 _ _ rfl; omega) kKR_953 (by have := kKR_953.1 15 _ _ rfl; have := kKR_953.1 16 _ _ rfl; have := kKR_953.1 19 _ _ rfl; omega) I_953.start) rfl (Nat.le_of_ble_eq_true rfl) (Nat.le_of_ble_eq_true rfl) (Nat.le_of_ble_eq_true rfl) (hst := rfl) (fun b1041r M1042 n1043 b1041 => ?_)
                                  obtain ⟨T1044, J1045, rfl, R1052, f1053⟩ := b1041
                                  have I1046 := I_953.call J1045 (tm_sub (by decide)) (Or.inl rfl)
                                  have t1054 := J1045.up h_q0_953
                                  have z1055 := (rv_c I_953 J1045 (I_953.up h_o0) (k := 15) rfl)
                                  have z1056 := (rv_c I_953 J1045 (I_953.up h_o0) (k := 16) rfl)
                                  have z1057 := (rv_c I_953 J1045 (I_953.up h_o0) (k := 17) rfl)
                                  have z1058 := (rv_c I_953 J1045 (I_953.up h_o0) (k := 19) rfl)
                                  have z1059 := (rv_c I_953 J1045 (I_953.up h_o0) (k := 22) rfl)
                                  have z1060 := (rv_c I_953 J1045 (I_953.up h_o0) (k := 24) rfl)
                                  have z1061 := (rv_c I_953 J1045 (I_953.up h_o0) (k := 27) rfl)
                                  have z1062 := (rv_c I_953 J1045 (I_953.up h_o0) (k := 32) rfl)
                                  have z1063 := (rv_c I_953 J1045 (I_953.up h_o0) (k := 49) rfl)
                                  have z1064 := (ra_call I_953 J1045 (I_953.up h_o0) (k := 5) rfl rfl rfl 44)
                                  have z1065 := (ra_call I_953 J1045 (I_953.up h_o0) (k := 6) rfl rfl rfl 44)
                                  have z1066 := (ra_call I_953 J1045 (I_953.up h_o0) (k := 6) rfl rfl rfl ((20 + v741).toNatClampNeg))
                                  have z1067 := (ra_call I_953 J1045 (I_953.up h_o0) (k := 37) rfl rfl rfl v741.toNatClampNeg)
                                  have K1068 : rP M1042 o0 := kKP_953.same (sA_c I_953 J1045 (I_953.up h_o0) (by decide +kernel)) (sF_c I_953 J1045 (I_953.up h_o0) (by decide +kernel))
                                  have K1069 : rB M1042 o0 v741.toNatClampNeg := kKB_953.add f1053 (sA_c I_953 J1045 (I_953.up h_o0) (by decide)) (sF_c I_953 J1045 (I_953.up h_o0) (by decide)) (by have := mz_nat9 (i := v741) (by have := kKR_953.1 15 _ _ rfl; have := kKR_953.1 16 _ _ rfl; have := kKR_953.1 19 _ _ rfl; omega); have := kKR_953.1 15 _ _ rfl; have := kKR_953.1 16 _ _ rfl; have := kKR_953.1 19 _ _ rfl; omega)
                                  have K1070 : sA [7] M743 M1042 o0 := kKY_953.trans (sA_c I_953 J1045 (I_953.up h_o0) (by decide +kernel))
                                  have K1071 : rC M1042 o0 ((20 + v741).toNatClampNeg) := kKC_953.add kKR_953 f1053 (by have := mz_nat9 (i := v741) (by have := kKR_953.1 15 _ _ rfl; have := kKR_953.1 16 _ _ rfl; have := kKR_953.1 19 _ _ rfl; omega); have := kKR_953.1 15 _ _ rfl; have := kKR_953.1 16 _ _ rfl; have := kKR_953.1 19 _ _ rfl; omega) i6_953.toInt.toNat (by have := kKR_953.1 15 _ _ rfl; have := kKR_953.1 16 _ _ rfl; have := kKR_953.1 19 _ _ rfl; omega) (by have := mz_nat9 (i := i6_953) (by have := kKR_953.1 15 _ _ rfl; have := kKR_953.1 16 _ _ rfl; have := kKR_953.1 19 _ _ rfl; omega); have := kKR_953.1 15 _ _ rfl; have := kKR_953.1 16 _ _ rfl; have := kKR_953.1 19 _ _ rfl; omega) (by rw [show ((20 * (20 + v741)) + i6_953).toInt.toNat = ((20 * (20 + v741)) + i6_953).toNatClampNeg from by have := mz_nat9 (i := ((20 * (20 + v741)) + i6_953)) (by have := kKR_953.1 15 _ _ rfl; have := kKR_953.1 16 _ _ rfl; have := kKR_953.1 19 _ _ rfl; omega); have := kKR_953.1 15 _ _ rfl; have := kKR_953.1 16 _ _ rfl; have := kKR_953.1 19 _ _ rfl; omega]; omega) (sA_c I_953 J1045 (I_953.up h_o0) (by decide)) (sF_c I_953 J1045 (I_953.up h_o0) (by decide))
                                  have := f1053.2.2 v741.toNatClampNeg
                                  rw [if_pos rfl] at this
                                  have q1072 := J1045.keep h_q0_953 (by decide) q954
                                  have t1073 := J1045.up t_a955
                                  have q1074 := J1045.keep h_q0_953 (by decide) q1016
                                  have t1075 := J1045.up t_a1017
                                  refine mv_iinc (v := (i6_953 + 1)) (lv' := [(6, .int (i6_953 + 1)), (7, .int ((20 * (20 + v741)) + i6_953)), (5, .int v741), (4, .int v750), (3, .int (20 + v741)), (0, .ref o0), (1, .int x1), (2, .int x2)]) d_TrustDeskModel_fund_268 rfl rfl (by decide) rfl ?_
                                  refine mv_goto (tgt := 155) d_TrustDeskModel_fund_271 (by decide) ?_
                                  have b1076 : (i6_953 + 1 : Int32).toInt = (i6_953.toInt + 1) := mz_add2 rfl (by decide) (by have := R1052.1 15 _ _ rfl; have := R1052.1 16 _ _ rfl; have := R1052.1 19 _ _ rfl; omega) (by have := R1052.1 15 _ _ rfl; have := R1052.1 16 _ _ rfl; have := R1052.1 19 _ _ rfl; omega)
                                  refine mv_locals (lv' := [(6, .int (i6_953 + 1)), (5, .int v741), (4, .int v750), (3, .int (20 + v741)), (0, .ref o0), (1, .int x1), (2, .int x2)]) (by intro q hq; simp only [List.mem_cons, List.not_mem_nil, or_false] at hq; rcases hq with rfl | rfl | rfl | rfl | rfl | rfl | rfl <;> rfl) ?_
                                  have b1077 : (i6_953 + 1).toInt = i6_953.toInt + 1 := mz_addn 1 1 (by decide) (by have := mz_lo i6_953; omega) (by have := mz_hi i6_953; omega)
                                  exact (ih953 (i6_953 + 1) T1044 M1042 n1043 I1046 t1054 (by have := R1052.1 15 _ _ rfl; have := R1052.1 16 _ _ rfl; have := R1052.1 19 _ _ rfl; first | omega | decide | exact fun h9 => absurd (by decide) h9) (by have := R1052.1 15 _ _ rfl; have := R1052.1 16 _ _ rfl; have := R1052.1 19 _ _ rfl; first | omega | decide | exact fun h9 => absurd (by decide) h9) (by have := R1052.1 15 _ _ rfl; have := R1052.1 16 _ _ rfl; have := R1052.1 19 _ _ rfl; first | omega | decide | exact fun h9 => absurd (by decide) h9) (by have := R1052.1 15 _ _ rfl; have := R1052.1 16 _ _ rfl; have := R1052.1 19 _ _ rfl; first | omega | decide | exact fun h9 => absurd (by decide) h9) (by have := R1052.1 15 _ _ rfl; have := R1052.1 16 _ _ rfl; have := R1052.1 19 _ _ rfl; first | omega | decide | exact fun h9 => absurd (by decide) h9) (by have := R1052.1 15 _ _ rfl; have := R1052.1 16 _ _ rfl; have := R1052.1 19 _ _ rfl; first | omega | decide | exact fun h9 => absurd (by decide) h9) (by have := R1052.1 15 _ _ rfl; have := R1052.1 16 _ _ rfl; have := R1052.1 19 _ _ rfl; first | omega | decide | exact fun h9 => absurd (by decide) h9) (by rw [show (i6_953 + 1 : Int32).toInt.toNat = i6_953.toInt.toNat + 1 from by omega]; have := R1052.1 15 _ _ rfl; have := R1052.1 16 _ _ rfl; have := R1052.1 19 _ _ rfl; omega) (by have := R1052.1 15 _ _ rfl; have := R1052.1 16 _ _ rfl; have := R1052.1 19 _ _ rfl; first | omega | decide | exact fun h9 => absurd (by decide) h9) R1052 K1068 K1069 K1070 K1071 (by have := R1052.1 15 _ _ rfl; have := R1052.1 16 _ _ rfl; have := R1052.1 19 _ _ rfl; omega))
                              · refine mv_aload_n d_TrustDeskModel_fund_216 rfl rfl ?_
                                obtain ⟨a1079, q1078, t_a1079⟩ := tm_atR I_953 h_q0_953 (k := 38) rfl
                                refine tr_getK q1078 d_TrustDeskModel_fund_217 f_TrustDeskModel_82_13 ?_
                                refine mv_iload d_TrustDeskModel_fund_220 rfl ?_
                                refine mv_aload_n d_TrustDeskModel_fund_222 rfl rfl ?_
                                obtain ⟨a1081, q1080, t_a1081⟩ := tm_atR I_953 h_q0_953 (k := 8) rfl
                                refine tr_getK q1080 d_TrustDeskModel_fund_223 f_TrustDeskModel_29_13 ?_
                                refine mv_iload d_TrustDeskModel_fund_226 rfl ?_
                                have b1082 : (20 + v741 : Int32).toInt = (20 + v741.toInt) := mz_add2 (by decide) rfl (by have := kKR_953.1 15 _ _ rfl; have := kKR_953.1 16 _ _ rfl; have := kKR_953.1 19 _ _ rfl; omega) (by have := kKR_953.1 15 _ _ rfl; have := kKR_953.1 16 _ _ rfl; have := kKR_953.1 19 _ _ rfl; omega)
                                have b1083 : (20 * (20 + v741) : Int32).toInt = (20 * (20 + v741.toInt)) := mz_mul2 (by decide) b1082 (by have := kKR_953.1 15 _ _ rfl; have := kKR_953.1 16 _ _ rfl; have := kKR_953.1 19 _ _ rfl; omega) (by have := kKR_953.1 15 _ _ rfl; have := kKR_953.1 16 _ _ rfl; have := kKR_953.1 19 _ _ rfl; omega)
                                have b1084 : ((20 * (20 + v741)) + i6_953 : Int32).toInt = ((20 * (20 + v741.toInt)) + i6_953.toInt) := mz_add2 b1083 rfl (by have := kKR_953.1 15 _ _ rfl; have := kKR_953.1 16 _ _ rfl; have := kKR_953.1 19 _ _ rfl; omega) (by have := kKR_953.1 15 _ _ rfl; have := kKR_953.1 16 _ _ rfl; have := kKR_953.1 19 _ _ rfl; omega)
                                refine tr_ialdR (o := o0) (k := 8) I_953 q1080 t_a1081 (by decide) d_TrustDeskModel_fund_228 (vp_in_iff.mpr (by have := kKR_953.1 15 _ _ rfl; have := kKR_953.1 16 _ _ rfl; have := kKR_953.1 19 _ _ rfl; omega)) (fun v1085 e1086 => ?_)
                                have := kKR_953.a (k := 8) rfl (((20 * (20 + v741)) + i6_953) : Int32).toNatClampNeg
                                refine tr_iastR (k := 38) I_953 kKR_953 (I_953.up h_o0) q1078 t_a1079 (by decide) (by decide) (fun lo hi h => by cases h) (Or.inl (by decide)) d_TrustDeskModel_fund_229 (vp_in_iff.mpr (by have := kKR_953.1 15 _ _ rfl; have := kKR_953.1 16 _ _ rfl; have := kKR_953.1 19 _ _ rfl; omega)) (fun M1087 I1088 K1089 R1090 E1091 A1092 V1093 => ?_)
                                have z1094 := (V1093 15)
                                have z1095 := (V1093 16)
                                have z1096 := (V1093 17)
                                have z1097 := (V1093 19)
                                have z1098 := (V1093 22)
                                have z1099 := (V1093 24)
                                have z1100 := (V1093 27)
                                have z1101 := (V1093 32)
                                have z1102 := (V1093 49)
                                have z1103 := (A1092 5 (by decide) rfl 44)
                                have z1104 := (A1092 6 (by decide) rfl 44)
                                have z1105 := (A1092 6 (by decide) rfl ((20 + v741).toNatClampNeg))
                                have z1106 := (A1092 43 (by decide) rfl v741.toNatClampNeg)
                                have z1107 := (A1092 37 (by decide) rfl v741.toNatClampNeg)
                                have K1108 : rP M1087 o0 := kKP_953.same (sA_a A1092 (by decide +kernel)) (sF_a V1093)
                                have K1109 : rB M1087 o0 v741.toNatClampNeg := kKB_953.same (sA_a A1092 (by decide +kernel)) (sF_a V1093)
                                have K1110 : sA [7] M743 M1087 o0 := kKY_953.trans (sA_a A1092 (by decide +kernel))
                                have K1111 : rC M1087 o0 ((20 + v741).toNatClampNeg) := kKC_953.same (sA_a A1092 (by decide +kernel)) (sF_a V1093)
                                refine mv_aload_n d_TrustDeskModel_fund_230 rfl rfl ?_
                                obtain ⟨a1113, q1112, t_a1113⟩ := tm_atR I1088 h_q0_953 (k := 39) rfl
                                refine tr_getK q1112 d_TrustDeskModel_fund_231 f_TrustDeskModel_85_13 ?_
                                refine mv_iload d_TrustDeskModel_fund_234 rfl ?_
                                refine mv_aload_n d_TrustDeskModel_fund_236 rfl rfl ?_
                                obtain ⟨a1115, q1114, t_a1115⟩ := tm_atR I1088 h_q0_953 (k := 9) rfl
                                refine tr_getK q1114 d_TrustDeskModel_fund_237 f_TrustDeskModel_32_13 ?_
                                refine mv_iload d_TrustDeskModel_fund_240 rfl ?_
                                have b1116 : (20 + v741 : Int32).toInt = (20 + v741.toInt) := mz_add2 (by decide) rfl (by have := R1090.1 15 _ _ rfl; have := R1090.1 16 _ _ rfl; have := R1090.1 19 _ _ rfl; omega) (by have := R1090.1 15 _ _ rfl; have := R1090.1 16 _ _ rfl; have := R1090.1 19 _ _ rfl; omega)
                                have b1117 : (20 * (20 + v741) : Int32).toInt = (20 * (20 + v741.toInt)) := mz_mul2 (by decide) b1116 (by have := R1090.1 15 _ _ rfl; have := R1090.1 16 _ _ rfl; have := R1090.1 19 _ _ rfl; omega) (by have := R1090.1 15 _ _ rfl; have := R1090.1 16 _ _ rfl; have := R1090.1 19 _ _ rfl; omega)
                                have b1118 : ((20 * (20 + v741)) + i6_953 : Int32).toInt = ((20 * (20 + v741.toInt)) + i6_953.toInt) := mz_add2 b1117 rfl (by have := R1090.1 15 _ _ rfl; have := R1090.1 16 _ _ rfl; have := R1090.1 19 _ _ rfl; omega) (by have := R1090.1 15 _ _ rfl; have := R1090.1 16 _ _ rfl; have := R1090.1 19 _ _ rfl; omega)
                                refine tr_ialdR (o := o0) (k := 9) I1088 q1114 t_a1115 (by decide) d_TrustDeskModel_fund_242 (vp_in_iff.mpr (by have := R1090.1 15 _ _ rfl; have := R1090.1 16 _ _ rfl; have := R1090.1 19 _ _ rfl; omega)) (fun v1119 e1120 => ?_)
                                refine tr_iastR (k := 39) I1088 R1090 (I1088.up h_o0) q1112 t_a1113 (by decide) (by decide) (fun lo hi h => by cases h) (Or.inl (by decide)) d_TrustDeskModel_fund_243 (vp_in_iff.mpr (by have := R1090.1 15 _ _ rfl; have := R1090.1 16 _ _ rfl; have := R1090.1 19 _ _ rfl; omega)) (fun M1121 I1122 K1123 R1124 E1125 A1126 V1127 => ?_)
                                have z1128 := (V1127 15).trans z1094
                                have z1129 := (V1127 16).trans z1095
                                have z1130 := (V1127 17).trans z1096
                                have z1131 := (V1127 19).trans z1097
                                have z1132 := (V1127 22).trans z1098
                                have z1133 := (V1127 24).trans z1099
                                have z1134 := (V1127 27).trans z1100
                                have z1135 := (V1127 32).trans z1101
                                have z1136 := (V1127 49).trans z1102
                                have z1137 := (A1126 5 (by decide) rfl 44).trans z1103
                                have z1138 := (A1126 6 (by decide) rfl 44).trans z1104
                                have z1139 := (A1126 6 (by decide) rfl ((20 + v741).toNatClampNeg)).trans z1105
                                have z1140 := (A1126 43 (by decide) rfl v741.toNatClampNeg).trans z1106
                                have z1141 := (A1126 37 (by decide) rfl v741.toNatClampNeg).trans z1107
                                have K1142 : rP M1121 o0 := K1108.same (sA_a A1126 (by decide +kernel)) (sF_a V1127)
                                have K1143 : rB M1121 o0 v741.toNatClampNeg := K1109.same (sA_a A1126 (by decide +kernel)) (sF_a V1127)
                                have K1144 : sA [7] M743 M1121 o0 := K1110.trans (sA_a A1126 (by decide +kernel))
                                have K1145 : rC M1121 o0 ((20 + v741).toNatClampNeg) := K1111.same (sA_a A1126 (by decide +kernel)) (sF_a V1127)
                                clear z1094 z1095 z1096 z1098 z1099 z1100 z1101 z1102 z1103 z1104 z1105 z1106 z1107
                                refine mv_aload_n d_TrustDeskModel_fund_244 rfl rfl ?_
                                refine tr_getK (k := 7) (K1123 _ 13 7 _ (K1089 _ 13 7 _ q1016)) d_TrustDeskModel_fund_245 f_TrustDeskModel_26_13 ?_
                                refine mv_iload d_TrustDeskModel_fund_248 rfl ?_
                                have b1146 : (20 + v741 : Int32).toInt = (20 + v741.toInt) := mz_add2 (by decide) rfl (by have := R1124.1 15 _ _ rfl; have := R1124.1 16 _ _ rfl; have := R1124.1 19 _ _ rfl; omega) (by have := R1124.1 15 _ _ rfl; have := R1124.1 16 _ _ rfl; have := R1124.1 19 _ _ rfl; omega)
                                have b1147 : (20 * (20 + v741) : Int32).toInt = (20 * (20 + v741.toInt)) := mz_mul2 (by decide) b1146 (by have := R1124.1 15 _ _ rfl; have := R1124.1 16 _ _ rfl; have := R1124.1 19 _ _ rfl; omega) (by have := R1124.1 15 _ _ rfl; have := R1124.1 16 _ _ rfl; have := R1124.1 19 _ _ rfl; omega)
                                have b1148 : ((20 * (20 + v741)) + i6_953 : Int32).toInt = ((20 * (20 + v741.toInt)) + i6_953.toInt) := mz_add2 b1147 rfl (by have := R1124.1 15 _ _ rfl; have := R1124.1 16 _ _ rfl; have := R1124.1 19 _ _ rfl; omega) (by have := R1124.1 15 _ _ rfl; have := R1124.1 16 _ _ rfl; have := R1124.1 19 _ _ rfl; omega)
                                refine tr_ialdR (o := o0) (k := 7) I1122 (K1123 _ 13 7 _ (K1089 _ 13 7 _ q1016)) t_a1017 (by decide) d_TrustDeskModel_fund_250 (vp_in_iff.mpr (by have := R1124.1 15 _ _ rfl; have := R1124.1 16 _ _ rfl; have := R1124.1 19 _ _ rfl; omega)) (fun v1149 e1150 => ?_)
                                have h1151 : ((20 * (20 + v741)) + i6_953).toNatClampNeg = 20 * (20 + v741).toNatClampNeg + i6_953.toInt.toNat := by have := mz_nat9 (i := ((20 * (20 + v741)) + i6_953)) (by have := R1124.1 15 _ _ rfl; have := R1124.1 16 _ _ rfl; have := R1124.1 19 _ _ rfl; omega); have := mz_nat9 (i := (20 + v741)) (by have := R1124.1 15 _ _ rfl; have := R1124.1 16 _ _ rfl; have := R1124.1 19 _ _ rfl; omega); have := R1124.1 15 _ _ rfl; have := R1124.1 16 _ _ rfl; have := R1124.1 19 _ _ rfl; omega
                                have : v1149.toInt = ra M743 o0 7 (20 * (20 + v741).toNatClampNeg + i6_953.toInt.toNat) := by have e9 := K1144 7 rfl; rw [← e9, e1150, h1151]
                                refine mv_bipush (v := 8) d_TrustDeskModel_fund_251 (by decide) ?_
                                have := mz_hi v1149
                                refine mv_icmp_neZ (tgt := 268) (a := v1149.toInt) (b := 8) d_TrustDeskModel_fund_253 (by decide) rfl (by decide) (fun b1152 => ?_) (fun b1152 => ?_)
                                · refine mv_iinc (v := (i6_953 + 1)) (lv' := [(6, .int (i6_953 + 1)), (7, .int ((20 * (20 + v741)) + i6_953)), (5, .int v741), (4, .int v750), (3, .int (20 + v741)), (0, .ref o0), (1, .int x1), (2, .int x2)]) d_TrustDeskModel_fund_268 rfl rfl (by decide) rfl ?_
                                  refine mv_goto (tgt := 155) d_TrustDeskModel_fund_271 (by decide) ?_
                                  have b1153 : (i6_953 + 1 : Int32).toInt = (i6_953.toInt + 1) := mz_add2 rfl (by decide) (by have := R1124.1 15 _ _ rfl; have := R1124.1 16 _ _ rfl; have := R1124.1 19 _ _ rfl; omega) (by have := R1124.1 15 _ _ rfl; have := R1124.1 16 _ _ rfl; have := R1124.1 19 _ _ rfl; omega)
                                  refine mv_locals (lv' := [(6, .int (i6_953 + 1)), (5, .int v741), (4, .int v750), (3, .int (20 + v741)), (0, .ref o0), (1, .int x1), (2, .int x2)]) (by intro q hq; simp only [List.mem_cons, List.not_mem_nil, or_false] at hq; rcases hq with rfl | rfl | rfl | rfl | rfl | rfl | rfl <;> rfl) ?_
                                  have b1154 : (i6_953 + 1).toInt = i6_953.toInt + 1 := mz_addn 1 1 (by decide) (by have := mz_lo i6_953; omega) (by have := mz_hi i6_953; omega)
                                  exact (ih953 (i6_953 + 1) T_953 M1121 n_953 I1122 h_q0_953 (by have := R1124.1 15 _ _ rfl; have := R1124.1 16 _ _ rfl; have := R1124.1 19 _ _ rfl; first | omega | decide | exact fun h9 => absurd (by decide) h9) (by have := R1124.1 15 _ _ rfl; have := R1124.1 16 _ _ rfl; have := R1124.1 19 _ _ rfl; first | omega | decide | exact fun h9 => absurd (by decide) h9) (by have := R1124.1 15 _ _ rfl; have := R1124.1 16 _ _ rfl; have := R1124.1 19 _ _ rfl; first | omega | decide | exact fun h9 => absurd (by decide) h9) (by have := R1124.1 15 _ _ rfl; have := R1124.1 16 _ _ rfl; have := R1124.1 19 _ _ rfl; first | omega | decide | exact fun h9 => absurd (by decide) h9) (by have := R1124.1 15 _ _ rfl; have := R1124.1 16 _ _ rfl; have := R1124.1 19 _ _ rfl; first | omega | decide | exact fun h9 => absurd (by decide) h9) (by have := R1124.1 15 _ _ rfl; have := R1124.1 16 _ _ rfl; have := R1124.1 19 _ _ rfl; first | omega | decide | exact fun h9 => absurd (by decide) h9) (by have := R1124.1 15 _ _ rfl; have := R1124.1 16 _ _ rfl; have := R1124.1 19 _ _ rfl; first | omega | decide | exact fun h9 => absurd (by decide) h9) (by rw [show (i6_953 + 1 : Int32).toInt.toNat = i6_953.toInt.toNat + 1 from by omega]; have := R1124.1 15 _ _ rfl; have := R1124.1 16 _ _ rfl; have := R1124.1 19 _ _ rfl; omega) (by have := R1124.1 15 _ _ rfl; have := R1124.1 16 _ _ rfl; have := R1124.1 19 _ _ rfl; first | omega | decide | exact fun h9 => absurd (by decide) h9) R1124 K1142 K1143 K1144 K1145 (by have := R1124.1 15 _ _ rfl; have := R1124.1 16 _ _ rfl; have := R1124.1 19 _ _ rfl; omega))
                                · refine mv_aload_n d_TrustDeskModel_fund_256 rfl rfl ?_
                                  refine mv_iload d_TrustDeskModel_fund_257 rfl ?_
                                  refine mv_iload_n d_TrustDeskModel_fund_259 rfl rfl ?_
                                  refine mv_iload d_TrustDeskModel_fund_260 rfl ?_
                                  refine mv_iconst (v := 0) d_TrustDeskModel_fund_262 (by decide) ?_
                                  refine mv_iconst (v := 0) d_TrustDeskModel_fund_263 (by decide) ?_
                                  refine mv_iconst (v := (-1)) d_TrustDeskModel_fund_264 (by decide) ?_
                                  obtain ⟨_, b1161, -⟩ := I1122.1 _ _ h_q0_953
                                  have b1162 : (20 + v741 : Int32).toInt = (20 + v741.toInt) := mz_add2 (by decide) rfl (by have := R1124.1 15 _ _ rfl; have := R1124.1 16 _ _ rfl; have := R1124.1 19 _ _ rfl; omega) (by have := R1124.1 15 _ _ rfl; have := R1124.1 16 _ _ rfl; have := R1124.1 19 _ _ rfl; omega)
                                  have b1163 : (20 + v741 : Int32).toInt = (20 + v741.toInt) := mz_add2 (by decide) rfl (by have := R1124.1 15 _ _ rfl; have := R1124.1 16 _ _ rfl; have := R1124.1 19 _ _ rfl; omega) (by have := R1124.1 15 _ _ rfl; have := R1124.1 16 _ _ rfl; have := R1124.1 19 _ _ rfl; omega)
                                  have b1164 : (20 * (20 + v741) : Int32).toInt = (20 * (20 + v741.toInt)) := mz_mul2 (by decide) b1163 (by have := R1124.1 15 _ _ rfl; have := R1124.1 16 _ _ rfl; have := R1124.1 19 _ _ rfl; omega) (by have := R1124.1 15 _ _ rfl; have := R1124.1 16 _ _ rfl; have := R1124.1 19 _ _ rfl; omega)
                                  have b1165 : ((20 * (20 + v741)) + i6_953 : Int32).toInt = ((20 * (20 + v741.toInt)) + i6_953.toInt) := mz_add2 b1164 rfl (by have := R1124.1 15 _ _ rfl; have := R1124.1 16 _ _ rfl; have := R1124.1 19 _ _ rfl; omega) (by have := R1124.1 15 _ _ rfl; have := R1124.1 16 _ _ rfl; have := R1124.1 19 _ _ rfl; omega)
                                  have : (0 : Int32).toInt = 0 := by decide
                                  have : (0 : Int32).toInt = 0 := by decide
                                  have : ((-1) : Int32).toInt = (-1) := by decide
                                  refine mv_callV (kc' := 0) (ks' := 0) (As := [.int v741, .int (20 + v741), .int ((20 * (20 + v741)) + i6_953), .int 0, .int 0, .int (-1)]) (st9 := [.int (-1), .int 0, .int 0, .int ((20 * (20 + v741)) + i6_953), .int (20 + v741), .int v741, .ref o0]) d_TrustDeskModel_fund_265 lV_TrustDeskModel_428 b1161 rfl (tc_TrustDeskModel_addEnd_x (d := (d + 26)) (x9 := x9) (o0 := o0) (x1 := v741) (x2 := (20 + v741)) (x3 := ((20 * (20 + v741)) + i6_953)) (x4 := 0) (x5 := 0) (x6 := (-1)) h_q0_953 (by have := R1124.1 15 _ _ rfl; have := R1124.1 16 _ _ rfl; have := R1124.1 19 _ _ rfl; omega) (by have := R1124.1 15 _ _ rfl; have := R1124.1 16 _ _ rfl; have := R1124.1 19 _ _ rfl; omega) (by have := R1124.1 15 _ _ rfl; have := R1124.1 16 _ _ rfl; have := R1124.1 19 _ _ rfl; omega) R1124 (by have := R1124.1 15 _ _ rfl; have := R1124.1 16 _ _ rfl; have := R1124.1 19 _ _ rfl; omega) I1122.start) rfl (Nat.le_of_ble_eq_true rfl) (Nat.le_of_ble_eq_true rfl) (Nat.le_of_ble_eq_true rfl) (hst := rfl) (fun b1155r M1156 n1157 b1155 => ?_)
                                  obtain ⟨T1158, J1159, rfl, R1166, f1167⟩ := b1155
                                  have I1160 := I1122.call J1159 (tm_sub (by decide)) (Or.inl rfl)
                                  have t1168 := J1159.up h_q0_953
                                  have z1169 := (rv_c I1122 J1159 (I1122.up h_o0) (k := 15) rfl).trans z1128
                                  have z1170 := (rv_c I1122 J1159 (I1122.up h_o0) (k := 16) rfl).trans z1129
                                  have z1171 := (rv_c I1122 J1159 (I1122.up h_o0) (k := 17) rfl).trans z1130
                                  have z1172 := (rv_c I1122 J1159 (I1122.up h_o0) (k := 19) rfl).trans z1131
                                  have z1173 := (rv_c I1122 J1159 (I1122.up h_o0) (k := 22) rfl).trans z1132
                                  have z1174 := (rv_c I1122 J1159 (I1122.up h_o0) (k := 24) rfl).trans z1133
                                  have z1175 := (rv_c I1122 J1159 (I1122.up h_o0) (k := 27) rfl).trans z1134
                                  have z1176 := (rv_c I1122 J1159 (I1122.up h_o0) (k := 32) rfl).trans z1135
                                  have z1177 := (rv_c I1122 J1159 (I1122.up h_o0) (k := 49) rfl).trans z1136
                                  have z1178 := (ra_call I1122 J1159 (I1122.up h_o0) (k := 5) rfl rfl rfl 44).trans z1137
                                  have z1179 := (ra_call I1122 J1159 (I1122.up h_o0) (k := 6) rfl rfl rfl 44).trans z1138
                                  have z1180 := (ra_call I1122 J1159 (I1122.up h_o0) (k := 6) rfl rfl rfl ((20 + v741).toNatClampNeg)).trans z1139
                                  have z1181 := (ra_call I1122 J1159 (I1122.up h_o0) (k := 37) rfl rfl rfl v741.toNatClampNeg).trans z1141
                                  have K1182 : rP M1156 o0 := K1142.same (sA_c I1122 J1159 (I1122.up h_o0) (by decide +kernel)) (sF_c I1122 J1159 (I1122.up h_o0) (by decide +kernel))
                                  have K1183 : rB M1156 o0 v741.toNatClampNeg := K1143.add f1167 (sA_c I1122 J1159 (I1122.up h_o0) (by decide)) (sF_c I1122 J1159 (I1122.up h_o0) (by decide)) (by have := mz_nat9 (i := v741) (by have := R1124.1 15 _ _ rfl; have := R1124.1 16 _ _ rfl; have := R1124.1 19 _ _ rfl; omega); have := R1124.1 15 _ _ rfl; have := R1124.1 16 _ _ rfl; have := R1124.1 19 _ _ rfl; omega)
                                  have K1184 : sA [7] M743 M1156 o0 := K1144.trans (sA_c I1122 J1159 (I1122.up h_o0) (by decide +kernel))
                                  have K1185 : rC M1156 o0 ((20 + v741).toNatClampNeg) := K1145.add R1124 f1167 (by have := mz_nat9 (i := v741) (by have := R1124.1 15 _ _ rfl; have := R1124.1 16 _ _ rfl; have := R1124.1 19 _ _ rfl; omega); have := R1124.1 15 _ _ rfl; have := R1124.1 16 _ _ rfl; have := R1124.1 19 _ _ rfl; omega) i6_953.toInt.toNat (by have := R1124.1 15 _ _ rfl; have := R1124.1 16 _ _ rfl; have := R1124.1 19 _ _ rfl; omega) (by have := mz_nat9 (i := i6_953) (by have := R1124.1 15 _ _ rfl; have := R1124.1 16 _ _ rfl; have := R1124.1 19 _ _ rfl; omega); have := R1124.1 15 _ _ rfl; have := R1124.1 16 _ _ rfl; have := R1124.1 19 _ _ rfl; omega) (by rw [show ((20 * (20 + v741)) + i6_953).toInt.toNat = ((20 * (20 + v741)) + i6_953).toNatClampNeg from by have := mz_nat9 (i := ((20 * (20 + v741)) + i6_953)) (by have := R1124.1 15 _ _ rfl; have := R1124.1 16 _ _ rfl; have := R1124.1 19 _ _ rfl; omega); have := R1124.1 15 _ _ rfl; have := R1124.1 16 _ _ rfl; have := R1124.1 19 _ _ rfl; omega]; omega) (sA_c I1122 J1159 (I1122.up h_o0) (by decide)) (sF_c I1122 J1159 (I1122.up h_o0) (by decide))
                                  have := f1167.2.2 v741.toNatClampNeg
                                  rw [if_pos rfl] at this
                                  clear z1128 z1129 z1130 z1132 z1133 z1134 z1135 z1136 z1137 z1138 z1139 z1141
                                  have q1186 := J1159.keep h_q0_953 (by decide) (K1123 _ 13 6 _ (K1089 _ 13 6 _ q954))
                                  have t1187 := J1159.up t_a955
                                  have q1188 := J1159.keep h_q0_953 (by decide) (K1123 _ 13 7 _ (K1089 _ 13 7 _ q1016))
                                  have t1189 := J1159.up t_a1017
                                  have q1190 := J1159.keep h_q0_953 (by decide) (K1123 _ 13 38 _ (K1089 _ 13 38 _ q1078))
                                  have t1191 := J1159.up t_a1079
                                  have q1192 := J1159.keep h_q0_953 (by decide) (K1123 _ 13 8 _ (K1089 _ 13 8 _ q1080))
                                  have t1193 := J1159.up t_a1081
                                  have q1194 := J1159.keep h_q0_953 (by decide) (K1123 _ 13 39 _ q1112)
                                  have t1195 := J1159.up t_a1113
                                  have q1196 := J1159.keep h_q0_953 (by decide) (K1123 _ 13 9 _ q1114)
                                  have t1197 := J1159.up t_a1115
                                  refine mv_iinc (v := (i6_953 + 1)) (lv' := [(6, .int (i6_953 + 1)), (7, .int ((20 * (20 + v741)) + i6_953)), (5, .int v741), (4, .int v750), (3, .int (20 + v741)), (0, .ref o0), (1, .int x1), (2, .int x2)]) d_TrustDeskModel_fund_268 rfl rfl (by decide) rfl ?_
                                  refine mv_goto (tgt := 155) d_TrustDeskModel_fund_271 (by decide) ?_
                                  have b1198 : (i6_953 + 1 : Int32).toInt = (i6_953.toInt + 1) := mz_add2 rfl (by decide) (by have := R1166.1 15 _ _ rfl; have := R1166.1 16 _ _ rfl; have := R1166.1 19 _ _ rfl; omega) (by have := R1166.1 15 _ _ rfl; have := R1166.1 16 _ _ rfl; have := R1166.1 19 _ _ rfl; omega)
                                  refine mv_locals (lv' := [(6, .int (i6_953 + 1)), (5, .int v741), (4, .int v750), (3, .int (20 + v741)), (0, .ref o0), (1, .int x1), (2, .int x2)]) (by intro q hq; simp only [List.mem_cons, List.not_mem_nil, or_false] at hq; rcases hq with rfl | rfl | rfl | rfl | rfl | rfl | rfl <;> rfl) ?_
                                  have b1199 : (i6_953 + 1).toInt = i6_953.toInt + 1 := mz_addn 1 1 (by decide) (by have := mz_lo i6_953; omega) (by have := mz_hi i6_953; omega)
                                  exact (ih953 (i6_953 + 1) T1158 M1156 n1157 I1160 t1168 (by have := R1166.1 15 _ _ rfl; have := R1166.1 16 _ _ rfl; have := R1166.1 19 _ _ rfl; first | omega | decide | exact fun h9 => absurd (by decide) h9) (by have := R1166.1 15 _ _ rfl; have := R1166.1 16 _ _ rfl; have := R1166.1 19 _ _ rfl; first | omega | decide | exact fun h9 => absurd (by decide) h9) (by have := R1166.1 15 _ _ rfl; have := R1166.1 16 _ _ rfl; have := R1166.1 19 _ _ rfl; first | omega | decide | exact fun h9 => absurd (by decide) h9) (by have := R1166.1 15 _ _ rfl; have := R1166.1 16 _ _ rfl; have := R1166.1 19 _ _ rfl; first | omega | decide | exact fun h9 => absurd (by decide) h9) (by have := R1166.1 15 _ _ rfl; have := R1166.1 16 _ _ rfl; have := R1166.1 19 _ _ rfl; first | omega | decide | exact fun h9 => absurd (by decide) h9) (by have := R1166.1 15 _ _ rfl; have := R1166.1 16 _ _ rfl; have := R1166.1 19 _ _ rfl; first | omega | decide | exact fun h9 => absurd (by decide) h9) (by have := R1166.1 15 _ _ rfl; have := R1166.1 16 _ _ rfl; have := R1166.1 19 _ _ rfl; first | omega | decide | exact fun h9 => absurd (by decide) h9) (by rw [show (i6_953 + 1 : Int32).toInt.toNat = i6_953.toInt.toNat + 1 from by omega]; have := R1166.1 15 _ _ rfl; have := R1166.1 16 _ _ rfl; have := R1166.1 19 _ _ rfl; omega) (by have := R1166.1 15 _ _ rfl; have := R1166.1 16 _ _ rfl; have := R1166.1 19 _ _ rfl; first | omega | decide | exact fun h9 => absurd (by decide) h9) R1166 K1182 K1183 K1184 K1185 (by have := R1166.1 15 _ _ rfl; have := R1166.1 16 _ _ rfl; have := R1166.1 19 _ _ rfl; omega))
                            · refine mv_aload_n d_TrustDeskModel_fund_187 rfl rfl ?_
                              obtain ⟨a1201, q1200, t_a1201⟩ := tm_atR I_953 h_q0_953 (k := 36) rfl
                              refine tr_getK q1200 d_TrustDeskModel_fund_188 f_TrustDeskModel_76_13 ?_
                              refine mv_iload d_TrustDeskModel_fund_191 rfl ?_
                              refine mv_dup2_11 d_TrustDeskModel_fund_193 rfl rfl ?_
                              refine tr_ialdR (o := o0) (k := 36) I_953 q1200 t_a1201 (by decide) d_TrustDeskModel_fund_194 (vp_in_iff.mpr (by have := kKR_953.1 15 _ _ rfl; have := kKR_953.1 16 _ _ rfl; have := kKR_953.1 19 _ _ rfl; omega)) (fun v1202 e1203 => ?_)
                              refine mv_aload_n d_TrustDeskModel_fund_195 rfl rfl ?_
                              obtain ⟨a1205, q1204, t_a1205⟩ := tm_atR I_953 h_q0_953 (k := 8) rfl
                              refine tr_getK q1204 d_TrustDeskModel_fund_196 f_TrustDeskModel_29_13 ?_
                              refine mv_iload d_TrustDeskModel_fund_199 rfl ?_
                              have b1206 : (20 + v741 : Int32).toInt = (20 + v741.toInt) := mz_add2 (by decide) rfl (by have := kKR_953.1 15 _ _ rfl; have := kKR_953.1 16 _ _ rfl; have := kKR_953.1 19 _ _ rfl; omega) (by have := kKR_953.1 15 _ _ rfl; have := kKR_953.1 16 _ _ rfl; have := kKR_953.1 19 _ _ rfl; omega)
                              have b1207 : (20 * (20 + v741) : Int32).toInt = (20 * (20 + v741.toInt)) := mz_mul2 (by decide) b1206 (by have := kKR_953.1 15 _ _ rfl; have := kKR_953.1 16 _ _ rfl; have := kKR_953.1 19 _ _ rfl; omega) (by have := kKR_953.1 15 _ _ rfl; have := kKR_953.1 16 _ _ rfl; have := kKR_953.1 19 _ _ rfl; omega)
                              have b1208 : ((20 * (20 + v741)) + i6_953 : Int32).toInt = ((20 * (20 + v741.toInt)) + i6_953.toInt) := mz_add2 b1207 rfl (by have := kKR_953.1 15 _ _ rfl; have := kKR_953.1 16 _ _ rfl; have := kKR_953.1 19 _ _ rfl; omega) (by have := kKR_953.1 15 _ _ rfl; have := kKR_953.1 16 _ _ rfl; have := kKR_953.1 19 _ _ rfl; omega)
                              refine tr_ialdR (o := o0) (k := 8) I_953 q1204 t_a1205 (by decide) d_TrustDeskModel_fund_201 (vp_in_iff.mpr (by have := kKR_953.1 15 _ _ rfl; have := kKR_953.1 16 _ _ rfl; have := kKR_953.1 19 _ _ rfl; omega)) (fun v1209 e1210 => ?_)
                              have := kKR_953.a (k := 8) rfl (((20 * (20 + v741)) + i6_953) : Int32).toNatClampNeg
                              refine mv_ior d_TrustDeskModel_fund_202 ?_
                              refine tr_iastR (k := 36) I_953 kKR_953 (I_953.up h_o0) q1200 t_a1201 (by decide) (by decide) (fun lo hi h => by cases h) (Or.inl (by decide)) d_TrustDeskModel_fund_203 (vp_in_iff.mpr (by have := kKR_953.1 15 _ _ rfl; have := kKR_953.1 16 _ _ rfl; have := kKR_953.1 19 _ _ rfl; omega)) (fun M1211 I1212 K1213 R1214 E1215 A1216 V1217 => ?_)
                              have z1218 := (V1217 15)
                              have z1219 := (V1217 16)
                              have z1220 := (V1217 17)
                              have z1221 := (V1217 19)
                              have z1222 := (V1217 22)
                              have z1223 := (V1217 24)
                              have z1224 := (V1217 27)
                              have z1225 := (V1217 32)
                              have z1226 := (V1217 49)
                              have z1227 := (A1216 5 (by decide) rfl 44)
                              have z1228 := (A1216 6 (by decide) rfl 44)
                              have z1229 := (A1216 6 (by decide) rfl ((20 + v741).toNatClampNeg))
                              have z1230 := (A1216 43 (by decide) rfl v741.toNatClampNeg)
                              have z1231 := (A1216 37 (by decide) rfl v741.toNatClampNeg)
                              have K1232 : rP M1211 o0 := kKP_953.same (sA_a A1216 (by decide +kernel)) (sF_a V1217)
                              have K1233 : rB M1211 o0 v741.toNatClampNeg := kKB_953.same (sA_a A1216 (by decide +kernel)) (sF_a V1217)
                              have K1234 : sA [7] M743 M1211 o0 := kKY_953.trans (sA_a A1216 (by decide +kernel))
                              have K1235 : rC M1211 o0 ((20 + v741).toNatClampNeg) := kKC_953.same (sA_a A1216 (by decide +kernel)) (sF_a V1217)
                              refine mv_aload_n d_TrustDeskModel_fund_204 rfl rfl ?_
                              refine tr_getK (k := 7) (K1213 _ 13 7 _ q1016) d_TrustDeskModel_fund_205 f_TrustDeskModel_26_13 ?_
                              refine mv_iload d_TrustDeskModel_fund_208 rfl ?_
                              have b1236 : (20 + v741 : Int32).toInt = (20 + v741.toInt) := mz_add2 (by decide) rfl (by have := R1214.1 15 _ _ rfl; have := R1214.1 16 _ _ rfl; have := R1214.1 19 _ _ rfl; omega) (by have := R1214.1 15 _ _ rfl; have := R1214.1 16 _ _ rfl; have := R1214.1 19 _ _ rfl; omega)
                              have b1237 : (20 * (20 + v741) : Int32).toInt = (20 * (20 + v741.toInt)) := mz_mul2 (by decide) b1236 (by have := R1214.1 15 _ _ rfl; have := R1214.1 16 _ _ rfl; have := R1214.1 19 _ _ rfl; omega) (by have := R1214.1 15 _ _ rfl; have := R1214.1 16 _ _ rfl; have := R1214.1 19 _ _ rfl; omega)
                              have b1238 : ((20 * (20 + v741)) + i6_953 : Int32).toInt = ((20 * (20 + v741.toInt)) + i6_953.toInt) := mz_add2 b1237 rfl (by have := R1214.1 15 _ _ rfl; have := R1214.1 16 _ _ rfl; have := R1214.1 19 _ _ rfl; omega) (by have := R1214.1 15 _ _ rfl; have := R1214.1 16 _ _ rfl; have := R1214.1 19 _ _ rfl; omega)
                              refine tr_ialdR (o := o0) (k := 7) I1212 (K1213 _ 13 7 _ q1016) t_a1017 (by decide) d_TrustDeskModel_fund_210 (vp_in_iff.mpr (by have := R1214.1 15 _ _ rfl; have := R1214.1 16 _ _ rfl; have := R1214.1 19 _ _ rfl; omega)) (fun v1239 e1240 => ?_)
                              have h1241 : ((20 * (20 + v741)) + i6_953).toNatClampNeg = 20 * (20 + v741).toNatClampNeg + i6_953.toInt.toNat := by have := mz_nat9 (i := ((20 * (20 + v741)) + i6_953)) (by have := R1214.1 15 _ _ rfl; have := R1214.1 16 _ _ rfl; have := R1214.1 19 _ _ rfl; omega); have := mz_nat9 (i := (20 + v741)) (by have := R1214.1 15 _ _ rfl; have := R1214.1 16 _ _ rfl; have := R1214.1 19 _ _ rfl; omega); have := R1214.1 15 _ _ rfl; have := R1214.1 16 _ _ rfl; have := R1214.1 19 _ _ rfl; omega
                              have : v1239.toInt = ra M743 o0 7 (20 * (20 + v741).toNatClampNeg + i6_953.toInt.toNat) := by have e9 := K1234 7 rfl; rw [← e9, e1240, h1241]
                              refine mv_bipush (v := 9) d_TrustDeskModel_fund_211 (by decide) ?_
                              have := mz_hi v1239
                              refine mv_icmp_neZ (tgt := 244) (a := v1239.toInt) (b := 9) d_TrustDeskModel_fund_213 (by decide) rfl (by decide) (fun b1242 => ?_) (fun b1242 => ?_)
                              · refine mv_aload_n d_TrustDeskModel_fund_244 rfl rfl ?_
                                refine tr_getK (k := 7) (K1213 _ 13 7 _ q1016) d_TrustDeskModel_fund_245 f_TrustDeskModel_26_13 ?_
                                refine mv_iload d_TrustDeskModel_fund_248 rfl ?_
                                have b1243 : (20 + v741 : Int32).toInt = (20 + v741.toInt) := mz_add2 (by decide) rfl (by have := R1214.1 15 _ _ rfl; have := R1214.1 16 _ _ rfl; have := R1214.1 19 _ _ rfl; omega) (by have := R1214.1 15 _ _ rfl; have := R1214.1 16 _ _ rfl; have := R1214.1 19 _ _ rfl; omega)
                                have b1244 : (20 * (20 + v741) : Int32).toInt = (20 * (20 + v741.toInt)) := mz_mul2 (by decide) b1243 (by have := R1214.1 15 _ _ rfl; have := R1214.1 16 _ _ rfl; have := R1214.1 19 _ _ rfl; omega) (by have := R1214.1 15 _ _ rfl; have := R1214.1 16 _ _ rfl; have := R1214.1 19 _ _ rfl; omega)
                                have b1245 : ((20 * (20 + v741)) + i6_953 : Int32).toInt = ((20 * (20 + v741.toInt)) + i6_953.toInt) := mz_add2 b1244 rfl (by have := R1214.1 15 _ _ rfl; have := R1214.1 16 _ _ rfl; have := R1214.1 19 _ _ rfl; omega) (by have := R1214.1 15 _ _ rfl; have := R1214.1 16 _ _ rfl; have := R1214.1 19 _ _ rfl; omega)
                                refine tr_ialdR (o := o0) (k := 7) I1212 (K1213 _ 13 7 _ q1016) t_a1017 (by decide) d_TrustDeskModel_fund_250 (vp_in_iff.mpr (by have := R1214.1 15 _ _ rfl; have := R1214.1 16 _ _ rfl; have := R1214.1 19 _ _ rfl; omega)) (fun v1246 e1247 => ?_)
                                have h1248 : ((20 * (20 + v741)) + i6_953).toNatClampNeg = 20 * (20 + v741).toNatClampNeg + i6_953.toInt.toNat := by have := mz_nat9 (i := ((20 * (20 + v741)) + i6_953)) (by have := R1214.1 15 _ _ rfl; have := R1214.1 16 _ _ rfl; have := R1214.1 19 _ _ rfl; omega); have := mz_nat9 (i := (20 + v741)) (by have := R1214.1 15 _ _ rfl; have := R1214.1 16 _ _ rfl; have := R1214.1 19 _ _ rfl; omega); have := R1214.1 15 _ _ rfl; have := R1214.1 16 _ _ rfl; have := R1214.1 19 _ _ rfl; omega
                                have : v1246.toInt = ra M743 o0 7 (20 * (20 + v741).toNatClampNeg + i6_953.toInt.toNat) := by have e9 := K1234 7 rfl; rw [← e9, e1247, h1248]
                                refine mv_bipush (v := 8) d_TrustDeskModel_fund_251 (by decide) ?_
                                have := mz_hi v1246
                                refine mv_icmp_neZ (tgt := 268) (a := v1246.toInt) (b := 8) d_TrustDeskModel_fund_253 (by decide) rfl (by decide) (fun b1249 => ?_) (fun b1249 => ?_)
                                · refine mv_iinc (v := (i6_953 + 1)) (lv' := [(6, .int (i6_953 + 1)), (7, .int ((20 * (20 + v741)) + i6_953)), (5, .int v741), (4, .int v750), (3, .int (20 + v741)), (0, .ref o0), (1, .int x1), (2, .int x2)]) d_TrustDeskModel_fund_268 rfl rfl (by decide) rfl ?_
                                  refine mv_goto (tgt := 155) d_TrustDeskModel_fund_271 (by decide) ?_
                                  have b1250 : (i6_953 + 1 : Int32).toInt = (i6_953.toInt + 1) := mz_add2 rfl (by decide) (by have := R1214.1 15 _ _ rfl; have := R1214.1 16 _ _ rfl; have := R1214.1 19 _ _ rfl; omega) (by have := R1214.1 15 _ _ rfl; have := R1214.1 16 _ _ rfl; have := R1214.1 19 _ _ rfl; omega)
                                  refine mv_locals (lv' := [(6, .int (i6_953 + 1)), (5, .int v741), (4, .int v750), (3, .int (20 + v741)), (0, .ref o0), (1, .int x1), (2, .int x2)]) (by intro q hq; simp only [List.mem_cons, List.not_mem_nil, or_false] at hq; rcases hq with rfl | rfl | rfl | rfl | rfl | rfl | rfl <;> rfl) ?_
                                  have b1251 : (i6_953 + 1).toInt = i6_953.toInt + 1 := mz_addn 1 1 (by decide) (by have := mz_lo i6_953; omega) (by have := mz_hi i6_953; omega)
                                  exact (ih953 (i6_953 + 1) T_953 M1211 n_953 I1212 h_q0_953 (by have := R1214.1 15 _ _ rfl; have := R1214.1 16 _ _ rfl; have := R1214.1 19 _ _ rfl; first | omega | decide | exact fun h9 => absurd (by decide) h9) (by have := R1214.1 15 _ _ rfl; have := R1214.1 16 _ _ rfl; have := R1214.1 19 _ _ rfl; first | omega | decide | exact fun h9 => absurd (by decide) h9) (by have := R1214.1 15 _ _ rfl; have := R1214.1 16 _ _ rfl; have := R1214.1 19 _ _ rfl; first | omega | decide | exact fun h9 => absurd (by decide) h9) (by have := R1214.1 15 _ _ rfl; have := R1214.1 16 _ _ rfl; have := R1214.1 19 _ _ rfl; first | omega | decide | exact fun h9 => absurd (by decide) h9) (by have := R1214.1 15 _ _ rfl; have := R1214.1 16 _ _ rfl; have := R1214.1 19 _ _ rfl; first | omega | decide | exact fun h9 => absurd (by decide) h9) (by have := R1214.1 15 _ _ rfl; have := R1214.1 16 _ _ rfl; have := R1214.1 19 _ _ rfl; first | omega | decide | exact fun h9 => absurd (by decide) h9) (by have := R1214.1 15 _ _ rfl; have := R1214.1 16 _ _ rfl; have := R1214.1 19 _ _ rfl; first | omega | decide | exact fun h9 => absurd (by decide) h9) (by rw [show (i6_953 + 1 : Int32).toInt.toNat = i6_953.toInt.toNat + 1 from by omega]; have := R1214.1 15 _ _ rfl; have := R1214.1 16 _ _ rfl; have := R1214.1 19 _ _ rfl; omega) (by have := R1214.1 15 _ _ rfl; have := R1214.1 16 _ _ rfl; have := R1214.1 19 _ _ rfl; first | omega | decide | exact fun h9 => absurd (by decide) h9) R1214 K1232 K1233 K1234 K1235 (by have := R1214.1 15 _ _ rfl; have := R1214.1 16 _ _ rfl; have := R1214.1 19 _ _ rfl; omega))
                                · refine mv_aload_n d_TrustDeskModel_fund_256 rfl rfl ?_
                                  refine mv_iload d_TrustDeskModel_fund_257 rfl ?_
                                  refine mv_iload_n d_TrustDeskModel_fund_259 rfl rfl ?_
                                  refine mv_iload d_TrustDeskModel_fund_260 rfl ?_
                                  refine mv_iconst (v := 0) d_TrustDeskModel_fund_262 (by decide) ?_
                                  refine mv_iconst (v := 0) d_TrustDeskModel_fund_263 (by decide) ?_
                                  refine mv_iconst (v := (-1)) d_TrustDeskModel_fund_264 (by decide) ?_
                                  obtain ⟨_, b1258, -⟩ := I1212.1 _ _ h_q0_953
                                  have b1259 : (20 + v741 : Int32).toInt = (20 + v741.toInt) := mz_add2 (by decide) rfl (by have := R1214.1 15 _ _ rfl; have := R1214.1 16 _ _ rfl; have := R1214.1 19 _ _ rfl; omega) (by have := R1214.1 15 _ _ rfl; have := R1214.1 16 _ _ rfl; have := R1214.1 19 _ _ rfl; omega)
                                  have b1260 : (20 + v741 : Int32).toInt = (20 + v741.toInt) := mz_add2 (by decide) rfl (by have := R1214.1 15 _ _ rfl; have := R1214.1 16 _ _ rfl; have := R1214.1 19 _ _ rfl; omega) (by have := R1214.1 15 _ _ rfl; have := R1214.1 16 _ _ rfl; have := R1214.1 19 _ _ rfl; omega)
                                  have b1261 : (20 * (20 + v741) : Int32).toInt = (20 * (20 + v741.toInt)) := mz_mul2 (by decide) b1260 (by have := R1214.1 15 _ _ rfl; have := R1214.1 16 _ _ rfl; have := R1214.1 19 _ _ rfl; omega) (by have := R1214.1 15 _ _ rfl; have := R1214.1 16 _ _ rfl; have := R1214.1 19 _ _ rfl; omega)
                                  have b1262 : ((20 * (20 + v741)) + i6_953 : Int32).toInt = ((20 * (20 + v741.toInt)) + i6_953.toInt) := mz_add2 b1261 rfl (by have := R1214.1 15 _ _ rfl; have := R1214.1 16 _ _ rfl; have := R1214.1 19 _ _ rfl; omega) (by have := R1214.1 15 _ _ rfl; have := R1214.1 16 _ _ rfl; have := R1214.1 19 _ _ rfl; omega)
                                  have : (0 : Int32).toInt = 0 := by decide
                                  have : (0 : Int32).toInt = 0 := by decide
                                  have : ((-1) : Int32).toInt = (-1) := by decide
                                  refine mv_callV (kc' := 0) (ks' := 0) (As := [.int v741, .int (20 + v741), .int ((20 * (20 + v741)) + i6_953), .int 0, .int 0, .int (-1)]) (st9 := [.int (-1), .int 0, .int 0, .int ((20 * (20 + v741)) + i6_953), .int (20 + v741), .int v741, .ref o0]) d_TrustDeskModel_fund_265 lV_TrustDeskModel_428 b1258 rfl (tc_TrustDeskModel_addEnd_x (d := (d + 26)) (x9 := x9) (o0 := o0) (x1 := v741) (x2 := (20 + v741)) (x3 := ((20 * (20 + v741)) + i6_953)) (x4 := 0) (x5 := 0) (x6 := (-1)) h_q0_953 (by have := R1214.1 15 _ _ rfl; have := R1214.1 16 _ _ rfl; have := R1214.1 19 _ _ rfl; omega) (by have := R1214.1 15 _ _ rfl; have := R1214.1 16 _ _ rfl; have := R1214.1 19 _ _ rfl; omega) (by have := R1214.1 15 _ _ rfl; have := R1214.1 16 _ _ rfl; have := R1214.1 19 _ _ rfl; omega) R1214 (by have := R1214.1 15 _ _ rfl; have := R1214.1 16 _ _ rfl; have := R1214.1 19 _ _ rfl; omega) I1212.start) rfl (Nat.le_of_ble_eq_true rfl) (Nat.le_of_ble_eq_true rfl) (Nat.le_of_ble_eq_true rfl) (hst := rfl) (fun b1252r M1253 n1254 b1252 => ?_)
                                  obtain ⟨T1255, J1256, rfl, R1263, f1264⟩ := b1252
                                  have I1257 := I1212.call J1256 (tm_sub (by decide)) (Or.inl rfl)
                                  have t1265 := J1256.up h_q0_953
                                  have z1266 := (rv_c I1212 J1256 (I1212.up h_o0) (k := 15) rfl).trans z1218
                                  have z1267 := (rv_c I1212 J1256 (I1212.up h_o0) (k := 16) rfl).trans z1219
                                  have z1268 := (rv_c I1212 J1256 (I1212.up h_o0) (k := 17) rfl).trans z1220
                                  have z1269 := (rv_c I1212 J1256 (I1212.up h_o0) (k := 19) rfl).trans z1221
                                  have z1270 := (rv_c I1212 J1256 (I1212.up h_o0) (k := 22) rfl).trans z1222
                                  have z1271 := (rv_c I1212 J1256 (I1212.up h_o0) (k := 24) rfl).trans z1223
                                  have z1272 := (rv_c I1212 J1256 (I1212.up h_o0) (k := 27) rfl).trans z1224
                                  have z1273 := (rv_c I1212 J1256 (I1212.up h_o0) (k := 32) rfl).trans z1225
                                  have z1274 := (rv_c I1212 J1256 (I1212.up h_o0) (k := 49) rfl).trans z1226
                                  have z1275 := (ra_call I1212 J1256 (I1212.up h_o0) (k := 5) rfl rfl rfl 44).trans z1227
                                  have z1276 := (ra_call I1212 J1256 (I1212.up h_o0) (k := 6) rfl rfl rfl 44).trans z1228
                                  have z1277 := (ra_call I1212 J1256 (I1212.up h_o0) (k := 6) rfl rfl rfl ((20 + v741).toNatClampNeg)).trans z1229
                                  have z1278 := (ra_call I1212 J1256 (I1212.up h_o0) (k := 37) rfl rfl rfl v741.toNatClampNeg).trans z1231
                                  have K1279 : rP M1253 o0 := K1232.same (sA_c I1212 J1256 (I1212.up h_o0) (by decide +kernel)) (sF_c I1212 J1256 (I1212.up h_o0) (by decide +kernel))
                                  have K1280 : rB M1253 o0 v741.toNatClampNeg := K1233.add f1264 (sA_c I1212 J1256 (I1212.up h_o0) (by decide)) (sF_c I1212 J1256 (I1212.up h_o0) (by decide)) (by have := mz_nat9 (i := v741) (by have := R1214.1 15 _ _ rfl; have := R1214.1 16 _ _ rfl; have := R1214.1 19 _ _ rfl; omega); have := R1214.1 15 _ _ rfl; have := R1214.1 16 _ _ rfl; have := R1214.1 19 _ _ rfl; omega)
                                  have K1281 : sA [7] M743 M1253 o0 := K1234.trans (sA_c I1212 J1256 (I1212.up h_o0) (by decide +kernel))
                                  have K1282 : rC M1253 o0 ((20 + v741).toNatClampNeg) := K1235.add R1214 f1264 (by have := mz_nat9 (i := v741) (by have := R1214.1 15 _ _ rfl; have := R1214.1 16 _ _ rfl; have := R1214.1 19 _ _ rfl; omega); have := R1214.1 15 _ _ rfl; have := R1214.1 16 _ _ rfl; have := R1214.1 19 _ _ rfl; omega) i6_953.toInt.toNat (by have := R1214.1 15 _ _ rfl; have := R1214.1 16 _ _ rfl; have := R1214.1 19 _ _ rfl; omega) (by have := mz_nat9 (i := i6_953) (by have := R1214.1 15 _ _ rfl; have := R1214.1 16 _ _ rfl; have := R1214.1 19 _ _ rfl; omega); have := R1214.1 15 _ _ rfl; have := R1214.1 16 _ _ rfl; have := R1214.1 19 _ _ rfl; omega) (by rw [show ((20 * (20 + v741)) + i6_953).toInt.toNat = ((20 * (20 + v741)) + i6_953).toNatClampNeg from by have := mz_nat9 (i := ((20 * (20 + v741)) + i6_953)) (by have := R1214.1 15 _ _ rfl; have := R1214.1 16 _ _ rfl; have := R1214.1 19 _ _ rfl; omega); have := R1214.1 15 _ _ rfl; have := R1214.1 16 _ _ rfl; have := R1214.1 19 _ _ rfl; omega]; omega) (sA_c I1212 J1256 (I1212.up h_o0) (by decide)) (sF_c I1212 J1256 (I1212.up h_o0) (by decide))
                                  have := f1264.2.2 v741.toNatClampNeg
                                  rw [if_pos rfl] at this
                                  clear z1218 z1219 z1220 z1222 z1223 z1224 z1225 z1226 z1227 z1228 z1229 z1231
                                  have q1283 := J1256.keep h_q0_953 (by decide) (K1213 _ 13 6 _ q954)
                                  have t1284 := J1256.up t_a955
                                  have q1285 := J1256.keep h_q0_953 (by decide) (K1213 _ 13 7 _ q1016)
                                  have t1286 := J1256.up t_a1017
                                  have q1287 := J1256.keep h_q0_953 (by decide) (K1213 _ 13 36 _ q1200)
                                  have t1288 := J1256.up t_a1201
                                  have q1289 := J1256.keep h_q0_953 (by decide) (K1213 _ 13 8 _ q1204)
                                  have t1290 := J1256.up t_a1205
                                  refine mv_iinc (v := (i6_953 + 1)) (lv' := [(6, .int (i6_953 + 1)), (7, .int ((20 * (20 + v741)) + i6_953)), (5, .int v741), (4, .int v750), (3, .int (20 + v741)), (0, .ref o0), (1, .int x1), (2, .int x2)]) d_TrustDeskModel_fund_268 rfl rfl (by decide) rfl ?_
                                  refine mv_goto (tgt := 155) d_TrustDeskModel_fund_271 (by decide) ?_
                                  have b1291 : (i6_953 + 1 : Int32).toInt = (i6_953.toInt + 1) := mz_add2 rfl (by decide) (by have := R1263.1 15 _ _ rfl; have := R1263.1 16 _ _ rfl; have := R1263.1 19 _ _ rfl; omega) (by have := R1263.1 15 _ _ rfl; have := R1263.1 16 _ _ rfl; have := R1263.1 19 _ _ rfl; omega)
                                  refine mv_locals (lv' := [(6, .int (i6_953 + 1)), (5, .int v741), (4, .int v750), (3, .int (20 + v741)), (0, .ref o0), (1, .int x1), (2, .int x2)]) (by intro q hq; simp only [List.mem_cons, List.not_mem_nil, or_false] at hq; rcases hq with rfl | rfl | rfl | rfl | rfl | rfl | rfl <;> rfl) ?_
                                  have b1292 : (i6_953 + 1).toInt = i6_953.toInt + 1 := mz_addn 1 1 (by decide) (by have := mz_lo i6_953; omega) (by have := mz_hi i6_953; omega)
                                  exact (ih953 (i6_953 + 1) T1255 M1253 n1254 I1257 t1265 (by have := R1263.1 15 _ _ rfl; have := R1263.1 16 _ _ rfl; have := R1263.1 19 _ _ rfl; first | omega | decide | exact fun h9 => absurd (by decide) h9) (by have := R1263.1 15 _ _ rfl; have := R1263.1 16 _ _ rfl; have := R1263.1 19 _ _ rfl; first | omega | decide | exact fun h9 => absurd (by decide) h9) (by have := R1263.1 15 _ _ rfl; have := R1263.1 16 _ _ rfl; have := R1263.1 19 _ _ rfl; first | omega | decide | exact fun h9 => absurd (by decide) h9) (by have := R1263.1 15 _ _ rfl; have := R1263.1 16 _ _ rfl; have := R1263.1 19 _ _ rfl; first | omega | decide | exact fun h9 => absurd (by decide) h9) (by have := R1263.1 15 _ _ rfl; have := R1263.1 16 _ _ rfl; have := R1263.1 19 _ _ rfl; first | omega | decide | exact fun h9 => absurd (by decide) h9) (by have := R1263.1 15 _ _ rfl; have := R1263.1 16 _ _ rfl; have := R1263.1 19 _ _ rfl; first | omega | decide | exact fun h9 => absurd (by decide) h9) (by have := R1263.1 15 _ _ rfl; have := R1263.1 16 _ _ rfl; have := R1263.1 19 _ _ rfl; first | omega | decide | exact fun h9 => absurd (by decide) h9) (by rw [show (i6_953 + 1 : Int32).toInt.toNat = i6_953.toInt.toNat + 1 from by omega]; have := R1263.1 15 _ _ rfl; have := R1263.1 16 _ _ rfl; have := R1263.1 19 _ _ rfl; omega) (by have := R1263.1 15 _ _ rfl; have := R1263.1 16 _ _ rfl; have := R1263.1 19 _ _ rfl; first | omega | decide | exact fun h9 => absurd (by decide) h9) R1263 K1279 K1280 K1281 K1282 (by have := R1263.1 15 _ _ rfl; have := R1263.1 16 _ _ rfl; have := R1263.1 19 _ _ rfl; omega))
                              · refine mv_aload_n d_TrustDeskModel_fund_216 rfl rfl ?_
                                obtain ⟨a1294, q1293, t_a1294⟩ := tm_atR I1212 h_q0_953 (k := 38) rfl
                                refine tr_getK q1293 d_TrustDeskModel_fund_217 f_TrustDeskModel_82_13 ?_
                                refine mv_iload d_TrustDeskModel_fund_220 rfl ?_
                                refine mv_aload_n d_TrustDeskModel_fund_222 rfl rfl ?_
                                refine tr_getK (k := 8) (K1213 _ 13 8 _ q1204) d_TrustDeskModel_fund_223 f_TrustDeskModel_29_13 ?_
                                refine mv_iload d_TrustDeskModel_fund_226 rfl ?_
                                have b1295 : (20 + v741 : Int32).toInt = (20 + v741.toInt) := mz_add2 (by decide) rfl (by have := R1214.1 15 _ _ rfl; have := R1214.1 16 _ _ rfl; have := R1214.1 19 _ _ rfl; omega) (by have := R1214.1 15 _ _ rfl; have := R1214.1 16 _ _ rfl; have := R1214.1 19 _ _ rfl; omega)
                                have b1296 : (20 * (20 + v741) : Int32).toInt = (20 * (20 + v741.toInt)) := mz_mul2 (by decide) b1295 (by have := R1214.1 15 _ _ rfl; have := R1214.1 16 _ _ rfl; have := R1214.1 19 _ _ rfl; omega) (by have := R1214.1 15 _ _ rfl; have := R1214.1 16 _ _ rfl; have := R1214.1 19 _ _ rfl; omega)
                                have b1297 : ((20 * (20 + v741)) + i6_953 : Int32).toInt = ((20 * (20 + v741.toInt)) + i6_953.toInt) := mz_add2 b1296 rfl (by have := R1214.1 15 _ _ rfl; have := R1214.1 16 _ _ rfl; have := R1214.1 19 _ _ rfl; omega) (by have := R1214.1 15 _ _ rfl; have := R1214.1 16 _ _ rfl; have := R1214.1 19 _ _ rfl; omega)
                                refine tr_ialdR (o := o0) (k := 8) I1212 (K1213 _ 13 8 _ q1204) t_a1205 (by decide) d_TrustDeskModel_fund_228 (vp_in_iff.mpr (by have := R1214.1 15 _ _ rfl; have := R1214.1 16 _ _ rfl; have := R1214.1 19 _ _ rfl; omega)) (fun v1298 e1299 => ?_)
                                have := R1214.a (k := 8) rfl (((20 * (20 + v741)) + i6_953) : Int32).toNatClampNeg
                                refine tr_iastR (k := 38) I1212 R1214 (I1212.up h_o0) q1293 t_a1294 (by decide) (by decide) (fun lo hi h => by cases h) (Or.inl (by decide)) d_TrustDeskModel_fund_229 (vp_in_iff.mpr (by have := R1214.1 15 _ _ rfl; have := R1214.1 16 _ _ rfl; have := R1214.1 19 _ _ rfl; omega)) (fun M1300 I1301 K1302 R1303 E1304 A1305 V1306 => ?_)
                                have z1307 := (V1306 15).trans z1218
                                have z1308 := (V1306 16).trans z1219
                                have z1309 := (V1306 17).trans z1220
                                have z1310 := (V1306 19).trans z1221
                                have z1311 := (V1306 22).trans z1222
                                have z1312 := (V1306 24).trans z1223
                                have z1313 := (V1306 27).trans z1224
                                have z1314 := (V1306 32).trans z1225
                                have z1315 := (V1306 49).trans z1226
                                have z1316 := (A1305 5 (by decide) rfl 44).trans z1227
                                have z1317 := (A1305 6 (by decide) rfl 44).trans z1228
                                have z1318 := (A1305 6 (by decide) rfl ((20 + v741).toNatClampNeg)).trans z1229
                                have z1319 := (A1305 43 (by decide) rfl v741.toNatClampNeg).trans z1230
                                have z1320 := (A1305 37 (by decide) rfl v741.toNatClampNeg).trans z1231
                                have K1321 : rP M1300 o0 := K1232.same (sA_a A1305 (by decide +kernel)) (sF_a V1306)
                                have K1322 : rB M1300 o0 v741.toNatClampNeg := K1233.same (sA_a A1305 (by decide +kernel)) (sF_a V1306)
                                have K1323 : sA [7] M743 M1300 o0 := K1234.trans (sA_a A1305 (by decide +kernel))
                                have K1324 : rC M1300 o0 ((20 + v741).toNatClampNeg) := K1235.same (sA_a A1305 (by decide +kernel)) (sF_a V1306)
                                clear z1218 z1219 z1220 z1222 z1223 z1224 z1225 z1226 z1227 z1228 z1229 z1230 z1231
                                refine mv_aload_n d_TrustDeskModel_fund_230 rfl rfl ?_
                                obtain ⟨a1326, q1325, t_a1326⟩ := tm_atR I1301 h_q0_953 (k := 39) rfl
                                refine tr_getK q1325 d_TrustDeskModel_fund_231 f_TrustDeskModel_85_13 ?_
                                refine mv_iload d_TrustDeskModel_fund_234 rfl ?_
                                refine mv_aload_n d_TrustDeskModel_fund_236 rfl rfl ?_
                                obtain ⟨a1328, q1327, t_a1328⟩ := tm_atR I1301 h_q0_953 (k := 9) rfl
                                refine tr_getK q1327 d_TrustDeskModel_fund_237 f_TrustDeskModel_32_13 ?_
                                refine mv_iload d_TrustDeskModel_fund_240 rfl ?_
                                have b1329 : (20 + v741 : Int32).toInt = (20 + v741.toInt) := mz_add2 (by decide) rfl (by have := R1303.1 15 _ _ rfl; have := R1303.1 16 _ _ rfl; have := R1303.1 19 _ _ rfl; omega) (by have := R1303.1 15 _ _ rfl; have := R1303.1 16 _ _ rfl; have := R1303.1 19 _ _ rfl; omega)
                                have b1330 : (20 * (20 + v741) : Int32).toInt = (20 * (20 + v741.toInt)) := mz_mul2 (by decide) b1329 (by have := R1303.1 15 _ _ rfl; have := R1303.1 16 _ _ rfl; have := R1303.1 19 _ _ rfl; omega) (by have := R1303.1 15 _ _ rfl; have := R1303.1 16 _ _ rfl; have := R1303.1 19 _ _ rfl; omega)
                                have b1331 : ((20 * (20 + v741)) + i6_953 : Int32).toInt = ((20 * (20 + v741.toInt)) + i6_953.toInt) := mz_add2 b1330 rfl (by have := R1303.1 15 _ _ rfl; have := R1303.1 16 _ _ rfl; have := R1303.1 19 _ _ rfl; omega) (by have := R1303.1 15 _ _ rfl; have := R1303.1 16 _ _ rfl; have := R1303.1 19 _ _ rfl; omega)
                                refine tr_ialdR (o := o0) (k := 9) I1301 q1327 t_a1328 (by decide) d_TrustDeskModel_fund_242 (vp_in_iff.mpr (by have := R1303.1 15 _ _ rfl; have := R1303.1 16 _ _ rfl; have := R1303.1 19 _ _ rfl; omega)) (fun v1332 e1333 => ?_)
                                refine tr_iastR (k := 39) I1301 R1303 (I1301.up h_o0) q1325 t_a1326 (by decide) (by decide) (fun lo hi h => by cases h) (Or.inl (by decide)) d_TrustDeskModel_fund_243 (vp_in_iff.mpr (by have := R1303.1 15 _ _ rfl; have := R1303.1 16 _ _ rfl; have := R1303.1 19 _ _ rfl; omega)) (fun M1334 I1335 K1336 R1337 E1338 A1339 V1340 => ?_)
                                have z1341 := (V1340 15).trans z1307
                                have z1342 := (V1340 16).trans z1308
                                have z1343 := (V1340 17).trans z1309
                                have z1344 := (V1340 19).trans z1310
                                have z1345 := (V1340 22).trans z1311
                                have z1346 := (V1340 24).trans z1312
                                have z1347 := (V1340 27).trans z1313
                                have z1348 := (V1340 32).trans z1314
                                have z1349 := (V1340 49).trans z1315
                                have z1350 := (A1339 5 (by decide) rfl 44).trans z1316
                                have z1351 := (A1339 6 (by decide) rfl 44).trans z1317
                                have z1352 := (A1339 6 (by decide) rfl ((20 + v741).toNatClampNeg)).trans z1318
                                have z1353 := (A1339 43 (by decide) rfl v741.toNatClampNeg).trans z1319
                                have z1354 := (A1339 37 (by decide) rfl v741.toNatClampNeg).trans z1320
                                have K1355 : rP M1334 o0 := K1321.same (sA_a A1339 (by decide +kernel)) (sF_a V1340)
                                have K1356 : rB M1334 o0 v741.toNatClampNeg := K1322.same (sA_a A1339 (by decide +kernel)) (sF_a V1340)
                                have K1357 : sA [7] M743 M1334 o0 := K1323.trans (sA_a A1339 (by decide +kernel))
                                have K1358 : rC M1334 o0 ((20 + v741).toNatClampNeg) := K1324.same (sA_a A1339 (by decide +kernel)) (sF_a V1340)
                                clear z1307 z1308 z1309 z1311 z1312 z1313 z1314 z1315 z1316 z1317 z1318 z1319 z1320
                                refine mv_aload_n d_TrustDeskModel_fund_244 rfl rfl ?_
                                refine tr_getK (k := 7) (K1336 _ 13 7 _ (K1302 _ 13 7 _ (K1213 _ 13 7 _ q1016))) d_TrustDeskModel_fund_245 f_TrustDeskModel_26_13 ?_
                                refine mv_iload d_TrustDeskModel_fund_248 rfl ?_
                                have b1359 : (20 + v741 : Int32).toInt = (20 + v741.toInt) := mz_add2 (by decide) rfl (by have := R1337.1 15 _ _ rfl; have := R1337.1 16 _ _ rfl; have := R1337.1 19 _ _ rfl; omega) (by have := R1337.1 15 _ _ rfl; have := R1337.1 16 _ _ rfl; have := R1337.1 19 _ _ rfl; omega)
                                have b1360 : (20 * (20 + v741) : Int32).toInt = (20 * (20 + v741.toInt)) := mz_mul2 (by decide) b1359 (by have := R1337.1 15 _ _ rfl; have := R1337.1 16 _ _ rfl; have := R1337.1 19 _ _ rfl; omega) (by have := R1337.1 15 _ _ rfl; have := R1337.1 16 _ _ rfl; have := R1337.1 19 _ _ rfl; omega)
                                have b1361 : ((20 * (20 + v741)) + i6_953 : Int32).toInt = ((20 * (20 + v741.toInt)) + i6_953.toInt) := mz_add2 b1360 rfl (by have := R1337.1 15 _ _ rfl; have := R1337.1 16 _ _ rfl; have := R1337.1 19 _ _ rfl; omega) (by have := R1337.1 15 _ _ rfl; have := R1337.1 16 _ _ rfl; have := R1337.1 19 _ _ rfl; omega)
                                refine tr_ialdR (o := o0) (k := 7) I1335 (K1336 _ 13 7 _ (K1302 _ 13 7 _ (K1213 _ 13 7 _ q1016))) t_a1017 (by decide) d_TrustDeskModel_fund_250 (vp_in_iff.mpr (by have := R1337.1 15 _ _ rfl; have := R1337.1 16 _ _ rfl; have := R1337.1 19 _ _ rfl; omega)) (fun v1362 e1363 => ?_)
                                have h1364 : ((20 * (20 + v741)) + i6_953).toNatClampNeg = 20 * (20 + v741).toNatClampNeg + i6_953.toInt.toNat := by have := mz_nat9 (i := ((20 * (20 + v741)) + i6_953)) (by have := R1337.1 15 _ _ rfl; have := R1337.1 16 _ _ rfl; have := R1337.1 19 _ _ rfl; omega); have := mz_nat9 (i := (20 + v741)) (by have := R1337.1 15 _ _ rfl; have := R1337.1 16 _ _ rfl; have := R1337.1 19 _ _ rfl; omega); have := R1337.1 15 _ _ rfl; have := R1337.1 16 _ _ rfl; have := R1337.1 19 _ _ rfl; omega
                                have : v1362.toInt = ra M743 o0 7 (20 * (20 + v741).toNatClampNeg + i6_953.toInt.toNat) := by have e9 := K1357 7 rfl; rw [← e9, e1363, h1364]
                                refine mv_bipush (v := 8) d_TrustDeskModel_fund_251 (by decide) ?_
                                have := mz_hi v1362
                                refine mv_icmp_neZ (tgt := 268) (a := v1362.toInt) (b := 8) d_TrustDeskModel_fund_253 (by decide) rfl (by decide) (fun b1365 => ?_) (fun b1365 => ?_)
                                · refine mv_iinc (v := (i6_953 + 1)) (lv' := [(6, .int (i6_953 + 1)), (7, .int ((20 * (20 + v741)) + i6_953)), (5, .int v741), (4, .int v750), (3, .int (20 + v741)), (0, .ref o0), (1, .int x1), (2, .int x2)]) d_TrustDeskModel_fund_268 rfl rfl (by decide) rfl ?_
                                  refine mv_goto (tgt := 155) d_TrustDeskModel_fund_271 (by decide) ?_
                                  have b1366 : (i6_953 + 1 : Int32).toInt = (i6_953.toInt + 1) := mz_add2 rfl (by decide) (by have := R1337.1 15 _ _ rfl; have := R1337.1 16 _ _ rfl; have := R1337.1 19 _ _ rfl; omega) (by have := R1337.1 15 _ _ rfl; have := R1337.1 16 _ _ rfl; have := R1337.1 19 _ _ rfl; omega)
                                  refine mv_locals (lv' := [(6, .int (i6_953 + 1)), (5, .int v741), (4, .int v750), (3, .int (20 + v741)), (0, .ref o0), (1, .int x1), (2, .int x2)]) (by intro q hq; simp only [List.mem_cons, List.not_mem_nil, or_false] at hq; rcases hq with rfl | rfl | rfl | rfl | rfl | rfl | rfl <;> rfl) ?_
                                  have b1367 : (i6_953 + 1).toInt = i6_953.toInt + 1 := mz_addn 1 1 (by decide) (by have := mz_lo i6_953; omega) (by have := mz_hi i6_953; omega)
                                  exact (ih953 (i6_953 + 1) T_953 M1334 n_953 I1335 h_q0_953 (by have := R1337.1 15 _ _ rfl; have := R1337.1 16 _ _ rfl; have := R1337.1 19 _ _ rfl; first | omega | decide | exact fun h9 => absurd (by decide) h9) (by have := R1337.1 15 _ _ rfl; have := R1337.1 16 _ _ rfl; have := R1337.1 19 _ _ rfl; first | omega | decide | exact fun h9 => absurd (by decide) h9) (by have := R1337.1 15 _ _ rfl; have := R1337.1 16 _ _ rfl; have := R1337.1 19 _ _ rfl; first | omega | decide | exact fun h9 => absurd (by decide) h9) (by have := R1337.1 15 _ _ rfl; have := R1337.1 16 _ _ rfl; have := R1337.1 19 _ _ rfl; first | omega | decide | exact fun h9 => absurd (by decide) h9) (by have := R1337.1 15 _ _ rfl; have := R1337.1 16 _ _ rfl; have := R1337.1 19 _ _ rfl; first | omega | decide | exact fun h9 => absurd (by decide) h9) (by have := R1337.1 15 _ _ rfl; have := R1337.1 16 _ _ rfl; have := R1337.1 19 _ _ rfl; first | omega | decide | exact fun h9 => absurd (by decide) h9) (by have := R1337.1 15 _ _ rfl; have := R1337.1 16 _ _ rfl; have := R1337.1 19 _ _ rfl; first | omega | decide | exact fun h9 => absurd (by decide) h9) (by rw [show (i6_953 + 1 : Int32).toInt.toNat = i6_953.toInt.toNat + 1 from by omega]; have := R1337.1 15 _ _ rfl; have := R1337.1 16 _ _ rfl; have := R1337.1 19 _ _ rfl; omega) (by have := R1337.1 15 _ _ rfl; have := R1337.1 16 _ _ rfl; have := R1337.1 19 _ _ rfl; first | omega | decide | exact fun h9 => absurd (by decide) h9) R1337 K1355 K1356 K1357 K1358 (by have := R1337.1 15 _ _ rfl; have := R1337.1 16 _ _ rfl; have := R1337.1 19 _ _ rfl; omega))
                                · refine mv_aload_n d_TrustDeskModel_fund_256 rfl rfl ?_
                                  refine mv_iload d_TrustDeskModel_fund_257 rfl ?_
                                  refine mv_iload_n d_TrustDeskModel_fund_259 rfl rfl ?_
                                  refine mv_iload d_TrustDeskModel_fund_260 rfl ?_
                                  refine mv_iconst (v := 0) d_TrustDeskModel_fund_262 (by decide) ?_
                                  refine mv_iconst (v := 0) d_TrustDeskModel_fund_263 (by decide) ?_
                                  refine mv_iconst (v := (-1)) d_TrustDeskModel_fund_264 (by decide) ?_
                                  obtain ⟨_, b1374, -⟩ := I1335.1 _ _ h_q0_953
                                  have b1375 : (20 + v741 : Int32).toInt = (20 + v741.toInt) := mz_add2 (by decide) rfl (by have := R1337.1 15 _ _ rfl; have := R1337.1 16 _ _ rfl; have := R1337.1 19 _ _ rfl; omega) (by have := R1337.1 15 _ _ rfl; have := R1337.1 16 _ _ rfl; have := R1337.1 19 _ _ rfl; omega)
                                  have b1376 : (20 + v741 : Int32).toInt = (20 + v741.toInt) := mz_add2 (by decide) rfl (by have := R1337.1 15 _ _ rfl; have := R1337.1 16 _ _ rfl; have := R1337.1 19 _ _ rfl; omega) (by have := R1337.1 15 _ _ rfl; have := R1337.1 16 _ _ rfl; have := R1337.1 19 _ _ rfl; omega)
                                  have b1377 : (20 * (20 + v741) : Int32).toInt = (20 * (20 + v741.toInt)) := mz_mul2 (by decide) b1376 (by have := R1337.1 15 _ _ rfl; have := R1337.1 16 _ _ rfl; have := R1337.1 19 _ _ rfl; omega) (by have := R1337.1 15 _ _ rfl; have := R1337.1 16 _ _ rfl; have := R1337.1 19 _ _ rfl; omega)
                                  have b1378 : ((20 * (20 + v741)) + i6_953 : Int32).toInt = ((20 * (20 + v741.toInt)) + i6_953.toInt) := mz_add2 b1377 rfl (by have := R1337.1 15 _ _ rfl; have := R1337.1 16 _ _ rfl; have := R1337.1 19 _ _ rfl; omega) (by have := R1337.1 15 _ _ rfl; have := R1337.1 16 _ _ rfl; have := R1337.1 19 _ _ rfl; omega)
                                  have : (0 : Int32).toInt = 0 := by decide
                                  have : (0 : Int32).toInt = 0 := by decide
                                  have : ((-1) : Int32).toInt = (-1) := by decide
                                  refine mv_callV (kc' := 0) (ks' := 0) (As := [.int v741, .int (20 + v741), .int ((20 * (20 + v741)) + i6_953), .int 0, .int 0, .int (-1)]) (st9 := [.int (-1), .int 0, .int 0, .int ((20 * (20 + v741)) + i6_953), .int (20 + v741), .int v741, .ref o0]) d_TrustDeskModel_fund_265 lV_TrustDeskModel_428 b1374 rfl (tc_TrustDeskModel_addEnd_x (d := (d + 26)) (x9 := x9) (o0 := o0) (x1 := v741) (x2 := (20 + v741)) (x3 := ((20 * (20 + v741)) + i6_953)) (x4 := 0) (x5 := 0) (x6 := (-1)) h_q0_953 (by have := R1337.1 15 _ _ rfl; have := R1337.1 16 _ _ rfl; have := R1337.1 19 _ _ rfl; omega) (by have := R1337.1 15 _ _ rfl; have := R1337.1 16 _ _ rfl; have := R1337.1 19 _ _ rfl; omega) (by have := R1337.1 15 _ _ rfl; have := R1337.1 16 _ _ rfl; have := R1337.1 19 _ _ rfl; omega) R1337 (by have := R1337.1 15 _ _ rfl; have := R1337.1 16 _ _ rfl; have := R1337.1 19 _ _ rfl; omega) I1335.start) rfl (Nat.le_of_ble_eq_true rfl) (Nat.le_of_ble_eq_true rfl) (Nat.le_of_ble_eq_true rfl) (hst := rfl) (fun b1368r M1369 n1370 b1368 => ?_)
                                  obtain ⟨T1371, J1372, rfl, R1379, f1380⟩ := b1368
                                  have I1373 := I1335.call J1372 (tm_sub (by decide)) (Or.inl rfl)
                                  have t1381 := J1372.up h_q0_953
                                  have z1382 := (rv_c I1335 J1372 (I1335.up h_o0) (k := 15) rfl).trans z1341
                                  have z1383 := (rv_c I1335 J1372 (I1335.up h_o0) (k := 16) rfl).trans z1342
                                  have z1384 := (rv_c I1335 J1372 (I1335.up h_o0) (k := 17) rfl).trans z1343
                                  have z1385 := (rv_c I1335 J1372 (I1335.up h_o0) (k := 19) rfl).trans z1344
                                  have z1386 := (rv_c I1335 J1372 (I1335.up h_o0) (k := 22) rfl).trans z1345
                                  have z1387 := (rv_c I1335 J1372 (I1335.up h_o0) (k := 24) rfl).trans z1346
                                  have z1388 := (rv_c I1335 J1372 (I1335.up h_o0) (k := 27) rfl).trans z1347
                                  have z1389 := (rv_c I1335 J1372 (I1335.up h_o0) (k := 32) rfl).trans z1348
                                  have z1390 := (rv_c I1335 J1372 (I1335.up h_o0) (k := 49) rfl).trans z1349
                                  have z1391 := (ra_call I1335 J1372 (I1335.up h_o0) (k := 5) rfl rfl rfl 44).trans z1350
                                  have z1392 := (ra_call I1335 J1372 (I1335.up h_o0) (k := 6) rfl rfl rfl 44).trans z1351
                                  have z1393 := (ra_call I1335 J1372 (I1335.up h_o0) (k := 6) rfl rfl rfl ((20 + v741).toNatClampNeg)).trans z1352
                                  have z1394 := (ra_call I1335 J1372 (I1335.up h_o0) (k := 37) rfl rfl rfl v741.toNatClampNeg).trans z1354
                                  have K1395 : rP M1369 o0 := K1355.same (sA_c I1335 J1372 (I1335.up h_o0) (by decide +kernel)) (sF_c I1335 J1372 (I1335.up h_o0) (by decide +kernel))
                                  have K1396 : rB M1369 o0 v741.toNatClampNeg := K1356.add f1380 (sA_c I1335 J1372 (I1335.up h_o0) (by decide)) (sF_c I1335 J1372 (I1335.up h_o0) (by decide)) (by have := mz_nat9 (i := v741) (by have := R1337.1 15 _ _ rfl; have := R1337.1 16 _ _ rfl; have := R1337.1 19 _ _ rfl; omega); have := R1337.1 15 _ _ rfl; have := R1337.1 16 _ _ rfl; have := R1337.1 19 _ _ rfl; omega)
                                  have K1397 : sA [7] M743 M1369 o0 := K1357.trans (sA_c I1335 J1372 (I1335.up h_o0) (by decide +kernel))
                                  have K1398 : rC M1369 o0 ((20 + v741).toNatClampNeg) := K1358.add R1337 f1380 (by have := mz_nat9 (i := v741) (by have := R1337.1 15 _ _ rfl; have := R1337.1 16 _ _ rfl; have := R1337.1 19 _ _ rfl; omega); have := R1337.1 15 _ _ rfl; have := R1337.1 16 _ _ rfl; have := R1337.1 19 _ _ rfl; omega) i6_953.toInt.toNat (by have := R1337.1 15 _ _ rfl; have := R1337.1 16 _ _ rfl; have := R1337.1 19 _ _ rfl; omega) (by have := mz_nat9 (i := i6_953) (by have := R1337.1 15 _ _ rfl; have := R1337.1 16 _ _ rfl; have := R1337.1 19 _ _ rfl; omega); have := R1337.1 15 _ _ rfl; have := R1337.1 16 _ _ rfl; have := R1337.1 19 _ _ rfl; omega) (by rw [show ((20 * (20 + v741)) + i6_953).toInt.toNat = ((20 * (20 + v741)) + i6_953).toNatClampNeg from by have := mz_nat9 (i := ((20 * (20 + v741)) + i6_953)) (by have := R1337.1 15 _ _ rfl; have := R1337.1 16 _ _ rfl; have := R1337.1 19 _ _ rfl; omega); have := R1337.1 15 _ _ rfl; have := R1337.1 16 _ _ rfl; have := R1337.1 19 _ _ rfl; omega]; omega) (sA_c I1335 J1372 (I1335.up h_o0) (by decide)) (sF_c I1335 J1372 (I1335.up h_o0) (by decide))
                                  have := f1380.2.2 v741.toNatClampNeg
                                  rw [if_pos rfl] at this
                                  clear z1341 z1342 z1343 z1345 z1346 z1347 z1348 z1349 z1350 z1351 z1352 z1354
                                  have q1399 := J1372.keep h_q0_953 (by decide) (K1336 _ 13 6 _ (K1302 _ 13 6 _ (K1213 _ 13 6 _ q954)))
                                  have t1400 := J1372.up t_a955
                                  have q1401 := J1372.keep h_q0_953 (by decide) (K1336 _ 13 7 _ (K1302 _ 13 7 _ (K1213 _ 13 7 _ q1016)))
                                  have t1402 := J1372.up t_a1017
                                  have q1403 := J1372.keep h_q0_953 (by decide) (K1336 _ 13 36 _ (K1302 _ 13 36 _ (K1213 _ 13 36 _ q1200)))
                                  have t1404 := J1372.up t_a1201
                                  have q1405 := J1372.keep h_q0_953 (by decide) (K1336 _ 13 8 _ (K1302 _ 13 8 _ (K1213 _ 13 8 _ q1204)))
                                  have t1406 := J1372.up t_a1205
                                  have q1407 := J1372.keep h_q0_953 (by decide) (K1336 _ 13 38 _ (K1302 _ 13 38 _ q1293))
                                  have t1408 := J1372.up t_a1294
                                  have q1409 := J1372.keep h_q0_953 (by decide) (K1336 _ 13 39 _ q1325)
                                  have t1410 := J1372.up t_a1326
                                  have q1411 := J1372.keep h_q0_953 (by decide) (K1336 _ 13 9 _ q1327)
                                  have t1412 := J1372.up t_a1328
                                  refine mv_iinc (v := (i6_953 + 1)) (lv' := [(6, .int (i6_953 + 1)), (7, .int ((20 * (20 + v741)) + i6_953)), (5, .int v741), (4, .int v750), (3, .int (20 + v741)), (0, .ref o0), (1, .int x1), (2, .int x2)]) d_TrustDeskModel_fund_268 rfl rfl (by decide) rfl ?_
                                  refine mv_goto (tgt := 155) d_TrustDeskModel_fund_271 (by decide) ?_
                                  have b1413 : (i6_953 + 1 : Int32).toInt = (i6_953.toInt + 1) := mz_add2 rfl (by decide) (by have := R1379.1 15 _ _ rfl; have := R1379.1 16 _ _ rfl; have := R1379.1 19 _ _ rfl; omega) (by have := R1379.1 15 _ _ rfl; have := R1379.1 16 _ _ rfl; have := R1379.1 19 _ _ rfl; omega)
                                  refine mv_locals (lv' := [(6, .int (i6_953 + 1)), (5, .int v741), (4, .int v750), (3, .int (20 + v741)), (0, .ref o0), (1, .int x1), (2, .int x2)]) (by intro q hq; simp only [List.mem_cons, List.not_mem_nil, or_false] at hq; rcases hq with rfl | rfl | rfl | rfl | rfl | rfl | rfl <;> rfl) ?_
                                  have b1414 : (i6_953 + 1).toInt = i6_953.toInt + 1 := mz_addn 1 1 (by decide) (by have := mz_lo i6_953; omega) (by have := mz_hi i6_953; omega)
                                  exact (ih953 (i6_953 + 1) T1371 M1369 n1370 I1373 t1381 (by have := R1379.1 15 _ _ rfl; have := R1379.1 16 _ _ rfl; have := R1379.1 19 _ _ rfl; first | omega | decide | exact fun h9 => absurd (by decide) h9) (by have := R1379.1 15 _ _ rfl; have := R1379.1 16 _ _ rfl; have := R1379.1 19 _ _ rfl; first | omega | decide | exact fun h9 => absurd (by decide) h9) (by have := R1379.1 15 _ _ rfl; have := R1379.1 16 _ _ rfl; have := R1379.1 19 _ _ rfl; first | omega | decide | exact fun h9 => absurd (by decide) h9) (by have := R1379.1 15 _ _ rfl; have := R1379.1 16 _ _ rfl; have := R1379.1 19 _ _ rfl; first | omega | decide | exact fun h9 => absurd (by decide) h9) (by have := R1379.1 15 _ _ rfl; have := R1379.1 16 _ _ rfl; have := R1379.1 19 _ _ rfl; first | omega | decide | exact fun h9 => absurd (by decide) h9) (by have := R1379.1 15 _ _ rfl; have := R1379.1 16 _ _ rfl; have := R1379.1 19 _ _ rfl; first | omega | decide | exact fun h9 => absurd (by decide) h9) (by have := R1379.1 15 _ _ rfl; have := R1379.1 16 _ _ rfl; have := R1379.1 19 _ _ rfl; first | omega | decide | exact fun h9 => absurd (by decide) h9) (by rw [show (i6_953 + 1 : Int32).toInt.toNat = i6_953.toInt.toNat + 1 from by omega]; have := R1379.1 15 _ _ rfl; have := R1379.1 16 _ _ rfl; have := R1379.1 19 _ _ rfl; omega) (by have := R1379.1 15 _ _ rfl; have := R1379.1 16 _ _ rfl; have := R1379.1 19 _ _ rfl; first | omega | decide | exact fun h9 => absurd (by decide) h9) R1379 K1395 K1396 K1397 K1398 (by have := R1379.1 15 _ _ rfl; have := R1379.1 16 _ _ rfl; have := R1379.1 19 _ _ rfl; omega))
                      have : (0 : Int32).toInt = 0 := by decide
                      have K1415 : rB M928 o0 v741.toNatClampNeg := K950.to
                      exact mv_less (Nat.zero_le _) (Nat.zero_le _) (L155_953 4294967296 0 T745 M928 n744 I929 t754 (by have := R931.1 15 _ _ rfl; have := R931.1 16 _ _ rfl; have := R931.1 19 _ _ rfl; first | omega | decide | exact fun h9 => absurd (by decide) h9) (by have := R931.1 15 _ _ rfl; have := R931.1 16 _ _ rfl; have := R931.1 19 _ _ rfl; first | omega | decide | exact fun h9 => absurd (by decide) h9) (by have := R931.1 15 _ _ rfl; have := R931.1 16 _ _ rfl; have := R931.1 19 _ _ rfl; first | omega | decide | exact fun h9 => absurd (by decide) h9) (by have := R931.1 15 _ _ rfl; have := R931.1 16 _ _ rfl; have := R931.1 19 _ _ rfl; first | omega | decide | exact fun h9 => absurd (by decide) h9) (by have := R931.1 15 _ _ rfl; have := R931.1 16 _ _ rfl; have := R931.1 19 _ _ rfl; first | omega | decide | exact fun h9 => absurd (by decide) h9) (by have := R931.1 15 _ _ rfl; have := R931.1 16 _ _ rfl; have := R931.1 19 _ _ rfl; first | omega | decide | exact fun h9 => absurd (by decide) h9) (by have := R931.1 15 _ _ rfl; have := R931.1 16 _ _ rfl; have := R931.1 19 _ _ rfl; first | omega | decide | exact fun h9 => absurd (by decide) h9) (by show _ ≤ kc _ _ _ 0; show _ ≤ (0 : Int); have := R931.1 15 _ _ rfl; have := R931.1 16 _ _ rfl; have := R931.1 19 _ _ rfl; omega) (by have := R931.1 15 _ _ rfl; have := R931.1 16 _ _ rfl; have := R931.1 19 _ _ rfl; first | omega | decide | exact fun h9 => absurd (by decide) h9) R931 K949 K1415 K951 K952 (by show (2147483647 - (0 : Int) : Int) < _; decide))
                    · have K1416 : rC M743 o0 44 := K766.1 (by omega)
                      refine mv_iload d_TrustDeskModel_fund_86 rfl ?_
                      exact mv_iret d_TrustDeskModel_fund_88 rfl (by first | rfl | decide) ⟨_, I747, _, rfl, R751, K1416, K764, K765, (by have := R751.1 15 _ _ rfl; have := R751.1 16 _ _ rfl; have := R751.1 19 _ _ rfl; omega)⟩
                  · refine mv_aload_n d_TrustDeskModel_fund_59 rfl rfl ?_
                    obtain ⟨_, b1423, -⟩ := I_56.1 _ _ h_q0_56
                    refine mv_callV (kc' := 0) (ks' := 0) (As := []) (st9 := [.ref o0]) d_TrustDeskModel_fund_60 lV_TrustDeskModel_425 b1423 rfl (tc_TrustDeskModel_readClause_x (d := d) (x9 := x9) (o0 := o0) h_q0_56 kKR_56 kKW_56 (by have := kKR_56.1 15 _ _ rfl; have := kKR_56.1 16 _ _ rfl; have := kKR_56.1 19 _ _ rfl; omega) (by have := kKR_56.1 15 _ _ rfl; have := kKR_56.1 16 _ _ rfl; have := kKR_56.1 19 _ _ rfl; omega) (by have := kKR_56.1 15 _ _ rfl; have := kKR_56.1 16 _ _ rfl; have := kKR_56.1 19 _ _ rfl; omega) (by have := kKR_56.1 15 _ _ rfl; have := kKR_56.1 16 _ _ rfl; have := kKR_56.1 19 _ _ rfl; omega) I_56.start) rfl (Nat.le_of_ble_eq_true rfl) (Nat.le_of_ble_eq_true rfl) (Nat.le_of_ble_eq_true rfl) (hst := rfl) (fun b1417r M1418 n1419 b1417 => ?_)
                    obtain ⟨T1420, J1421, rfl, R1424, f1425, f1426, f1427, f1428, f1429, f1430⟩ := b1417
                    have I1422 := I_56.call J1421 (tm_sub (by decide)) (Or.inl rfl)
                    have t1431 := J1421.up h_q0_56
                    replace f1428 := Im.i f1428
                    replace f1429 := Im.i f1429
                    have z1432 := (rv_c I_56 J1421 (I_56.up h_o0) (k := 27) rfl)
                    have z1433 := (rv_c I_56 J1421 (I_56.up h_o0) (k := 32) rfl)
                    have z1434 := (rv_c I_56 J1421 (I_56.up h_o0) (k := 49) rfl)
                    have K1435 : rC M1418 o0 44 := kKC_56.rO kKR_56 f1426 (sA_c I_56 J1421 (I_56.up h_o0) (by decide)) (sF_c I_56 J1421 (I_56.up h_o0) (by decide))
                    have K1436 : rP M1418 o0 := kKP_56.same (sA_c I_56 J1421 (I_56.up h_o0) (by decide +kernel)) (sF_c I_56 J1421 (I_56.up h_o0) (by decide +kernel))
                    have K1437 : rB M1418 o0 12 := kKB_56.same (sA_c I_56 J1421 (I_56.up h_o0) (by decide +kernel)) (sF_c I_56 J1421 (I_56.up h_o0) (by decide +kernel))
                    have K1438 : rW M1418 o0 := f1425
                    refine mv_goto (tgt := 45) d_TrustDeskModel_fund_63 (by decide) ?_
                    exact (ih56 T1420 M1418 n1419 I1422 t1431 (fun w9 => by have u91 : rv M1418 o0 19 = 0 := (by omega); have := f1428.o u91; omega) (by have := R1424.1 15 _ _ rfl; have := R1424.1 16 _ _ rfl; have := R1424.1 19 _ _ rfl; first | omega | decide | exact fun h9 => absurd (by decide) h9) (by have := R1424.1 15 _ _ rfl; have := R1424.1 16 _ _ rfl; have := R1424.1 19 _ _ rfl; first | omega | decide | exact fun h9 => absurd (by decide) h9) (by have := R1424.1 15 _ _ rfl; have := R1424.1 16 _ _ rfl; have := R1424.1 19 _ _ rfl; first | omega | decide | exact fun h9 => absurd (by decide) h9) (by have := R1424.1 15 _ _ rfl; have := R1424.1 16 _ _ rfl; have := R1424.1 19 _ _ rfl; first | omega | decide | exact fun h9 => absurd (by decide) h9) R1424 K1435 K1436 K1437 K1438 (by have := R1424.1 15 _ _ rfl; have := R1424.1 16 _ _ rfl; have := R1424.1 19 _ _ rfl; exact Classical.byCases (fun w9 : rv M1418 o0 19 = 0 => by have u91 : rv M1418 o0 19 = 0 := (by omega); have := f1428.o u91; omega) (fun w9 : ¬ rv M1418 o0 19 = 0 => by omega)))
            exact mv_less (Nat.zero_le _) (Nat.zero_le _) (L45_56 4294967296 T35 M33 n34 I37 t46 (fun w9 => by skip; omega) (by have := R39.1 15 _ _ rfl; have := R39.1 16 _ _ rfl; have := R39.1 19 _ _ rfl; first | omega | decide | exact fun h9 => absurd (by decide) h9) (by have := R39.1 15 _ _ rfl; have := R39.1 16 _ _ rfl; have := R39.1 19 _ _ rfl; first | omega | decide | exact fun h9 => absurd (by decide) h9) (by have := R39.1 15 _ _ rfl; have := R39.1 16 _ _ rfl; have := R39.1 19 _ _ rfl; first | omega | decide | exact fun h9 => absurd (by decide) h9) (by have := R39.1 15 _ _ rfl; have := R39.1 16 _ _ rfl; have := R39.1 19 _ _ rfl; first | omega | decide | exact fun h9 => absurd (by decide) h9) R39 K50 K51 K52 K53 (by have := R39.1 15 _ _ rfl; have := R39.1 16 _ _ rfl; have := R39.1 19 _ _ rfl; omega))
          · refine mv_iconst (v := (-1)) d_TrustDeskModel_fund_38 (by decide) ?_
            exact mv_iret d_TrustDeskModel_fund_39 rfl (by first | rfl | decide) ⟨_, I5, _, rfl, R8, K22, K23, K24, (by have := R8.1 15 _ _ rfl; have := R8.1 16 _ _ rfl; have := R8.1 19 _ _ rfl; omega)⟩
