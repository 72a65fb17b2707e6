abbrev kY_TrustDeskModel_fund : mj_Y := (⟨"TrustDeskModel", "fund", "(II)I"⟩, prog_14_method_55_code, 8, (Option.some Jvm.ClassFile.FieldType.int))
theorem d_TrustDeskModel_fund_0 : decode kY_TrustDeskModel_fund.2.1 0 = .ok (.aload_n 0, 1) := by decide +kernel
theorem d_TrustDeskModel_fund_1 : decode kY_TrustDeskModel_fund.2.1 1 = .ok (.iconst 0, 1) := by decide +kernel
theorem d_TrustDeskModel_fund_2 : decode kY_TrustDeskModel_fund.2.1 2 = .ok (.putfield 1, 3) := by decide +kernel
theorem d_TrustDeskModel_fund_5 : decode kY_TrustDeskModel_fund.2.1 5 = .ok (.iload_n 1, 1) := by decide +kernel
theorem d_TrustDeskModel_fund_6 : decode kY_TrustDeskModel_fund.2.1 6 = .ok (.i2l, 1) := by decide +kernel
theorem d_TrustDeskModel_fund_7 : decode kY_TrustDeskModel_fund.2.1 7 = .ok (.lconst 0, 1) := by decide +kernel
theorem d_TrustDeskModel_fund_8 : decode kY_TrustDeskModel_fund.2.1 8 = .ok (.ldc2_w 421, 3) := by decide +kernel
theorem k_TrustDeskModel_421 : Cond.constantLong "TrustDeskModel" 421 999 ∈ mj_T := (mj_in1 (List.mem_of_getElem? (i := 1793) (by decide +kernel)) rfl)
theorem d_TrustDeskModel_fund_11 : decode kY_TrustDeskModel_fund.2.1 11 = .ok (.invokestatic 169, 3) := by decide +kernel
theorem d_TrustDeskModel_fund_14 : decode kY_TrustDeskModel_fund.2.1 14 = .ok (.ifCond .eq 24, 3) := by decide +kernel
theorem d_TrustDeskModel_fund_38 : decode kY_TrustDeskModel_fund.2.1 38 = .ok (.iconst (-1), 1) := by decide +kernel
theorem d_TrustDeskModel_fund_39 : decode kY_TrustDeskModel_fund.2.1 39 = .ok (.ireturn, 1) := by decide +kernel
theorem d_TrustDeskModel_fund_17 : decode kY_TrustDeskModel_fund.2.1 17 = .ok (.iload_n 2, 1) := by decide +kernel
theorem d_TrustDeskModel_fund_18 : decode kY_TrustDeskModel_fund.2.1 18 = .ok (.i2l, 1) := by decide +kernel
theorem d_TrustDeskModel_fund_19 : decode kY_TrustDeskModel_fund.2.1 19 = .ok (.lconst 0, 1) := by decide +kernel
theorem d_TrustDeskModel_fund_20 : decode kY_TrustDeskModel_fund.2.1 20 = .ok (.ldc2_w 423, 3) := by decide +kernel
theorem k_TrustDeskModel_423 : Cond.constantLong "TrustDeskModel" 423 99999 ∈ mj_T := (mj_in1 (List.mem_of_getElem? (i := 1794) (by decide +kernel)) rfl)
theorem d_TrustDeskModel_fund_23 : decode kY_TrustDeskModel_fund.2.1 23 = .ok (.invokestatic 169, 3) := by decide +kernel
theorem d_TrustDeskModel_fund_26 : decode kY_TrustDeskModel_fund.2.1 26 = .ok (.ifCond .eq 12, 3) := by decide +kernel
theorem d_TrustDeskModel_fund_29 : decode kY_TrustDeskModel_fund.2.1 29 = .ok (.aload_n 0, 1) := by decide +kernel
theorem d_TrustDeskModel_fund_30 : decode kY_TrustDeskModel_fund.2.1 30 = .ok (.getfield 415, 3) := by decide +kernel
theorem f_TrustDeskModel_415_13 : mj_fl "TrustDeskModel" 415 13 32 := ⟨kR_TrustDeskModel, kF_TrustDeskModel, 72, "TrustDeskModel", rfl, kg_13, by decide, (mj_in1 (List.mem_of_getElem? (i := 1418) (by decide +kernel)) rfl), Or.inl rfl⟩
theorem d_TrustDeskModel_fund_33 : decode kY_TrustDeskModel_fund.2.1 33 = .ok (.bipush 12, 2) := by decide +kernel
theorem d_TrustDeskModel_fund_35 : decode kY_TrustDeskModel_fund.2.1 35 = .ok (.if_icmp .ne 5, 3) := by decide +kernel
theorem d_TrustDeskModel_fund_40 : decode kY_TrustDeskModel_fund.2.1 40 = .ok (.aload_n 0, 1) := by decide +kernel
theorem d_TrustDeskModel_fund_41 : decode kY_TrustDeskModel_fund.2.1 41 = .ok (.iconst 0, 1) := by decide +kernel
theorem d_TrustDeskModel_fund_42 : decode kY_TrustDeskModel_fund.2.1 42 = .ok (.invokevirtual 381, 3) := by decide +kernel
theorem d_TrustDeskModel_fund_45 : decode kY_TrustDeskModel_fund.2.1 45 = .ok (.aload_n 0, 1) := by decide +kernel
theorem d_TrustDeskModel_fund_66 : decode kY_TrustDeskModel_fund.2.1 66 = .ok (.bipush 20, 2) := by decide +kernel
theorem d_TrustDeskModel_fund_68 : decode kY_TrustDeskModel_fund.2.1 68 = .ok (.aload_n 0, 1) := by decide +kernel
theorem d_TrustDeskModel_fund_69 : decode kY_TrustDeskModel_fund.2.1 69 = .ok (.getfield 415, 3) := by decide +kernel
theorem d_TrustDeskModel_fund_72 : decode kY_TrustDeskModel_fund.2.1 72 = .ok (.iadd, 1) := by decide +kernel
theorem d_TrustDeskModel_fund_73 : decode kY_TrustDeskModel_fund.2.1 73 = .ok (.istore_n 3, 1) := by decide +kernel
theorem d_TrustDeskModel_fund_74 : decode kY_TrustDeskModel_fund.2.1 74 = .ok (.aload_n 0, 1) := by decide +kernel
theorem d_TrustDeskModel_fund_75 : decode kY_TrustDeskModel_fund.2.1 75 = .ok (.iload_n 3, 1) := by decide +kernel
theorem d_TrustDeskModel_fund_76 : decode kY_TrustDeskModel_fund.2.1 76 = .ok (.invokevirtual 388, 3) := by decide +kernel
theorem d_TrustDeskModel_fund_79 : decode kY_TrustDeskModel_fund.2.1 79 = .ok (.istore 4, 2) := by decide +kernel
theorem d_TrustDeskModel_fund_81 : decode kY_TrustDeskModel_fund.2.1 81 = .ok (.iload 4, 2) := by decide +kernel
theorem d_TrustDeskModel_fund_83 : decode kY_TrustDeskModel_fund.2.1 83 = .ok (.ifCond .ge 6, 3) := by decide +kernel
theorem d_TrustDeskModel_fund_89 : decode kY_TrustDeskModel_fund.2.1 89 = .ok (.aload_n 0, 1) := by decide +kernel
theorem d_TrustDeskModel_fund_90 : decode kY_TrustDeskModel_fund.2.1 90 = .ok (.getfield 415, 3) := by decide +kernel
theorem d_TrustDeskModel_fund_93 : decode kY_TrustDeskModel_fund.2.1 93 = .ok (.istore 5, 2) := by decide +kernel
theorem d_TrustDeskModel_fund_95 : decode kY_TrustDeskModel_fund.2.1 95 = .ok (.aload_n 0, 1) := by decide +kernel
theorem d_TrustDeskModel_fund_96 : decode kY_TrustDeskModel_fund.2.1 96 = .ok (.getfield 66, 3) := by decide +kernel
theorem f_TrustDeskModel_66_13 : mj_fl "TrustDeskModel" 66 13 33 := ⟨kR_TrustDeskModel, kF_TrustDeskModel, 72, "TrustDeskModel", rfl, kg_13, by decide, (mj_in1 (List.mem_of_getElem? (i := 1419) (by decide +kernel)) rfl), Or.inl rfl⟩
theorem d_TrustDeskModel_fund_99 : decode kY_TrustDeskModel_fund.2.1 99 = .ok (.iload 5, 2) := by decide +kernel
theorem d_TrustDeskModel_fund_101 : decode kY_TrustDeskModel_fund.2.1 101 = .ok (.iload_n 1, 1) := by decide +kernel
theorem d_TrustDeskModel_fund_102 : decode kY_TrustDeskModel_fund.2.1 102 = .ok (.iastore, 1) := by decide +kernel
theorem d_TrustDeskModel_fund_103 : decode kY_TrustDeskModel_fund.2.1 103 = .ok (.aload_n 0, 1) := by decide +kernel
theorem d_TrustDeskModel_fund_104 : decode kY_TrustDeskModel_fund.2.1 104 = .ok (.getfield 69, 3) := by decide +kernel
theorem f_TrustDeskModel_69_13 : mj_fl "TrustDeskModel" 69 13 34 := ⟨kR_TrustDeskModel, kF_TrustDeskModel, 72, "TrustDeskModel", rfl, kg_13, by decide, (mj_in1 (List.mem_of_getElem? (i := 1420) (by decide +kernel)) rfl), Or.inl rfl⟩
theorem d_TrustDeskModel_fund_107 : decode kY_TrustDeskModel_fund.2.1 107 = .ok (.iload 5, 2) := by decide +kernel
theorem d_TrustDeskModel_fund_109 : decode kY_TrustDeskModel_fund.2.1 109 = .ok (.iload_n 2, 1) := by decide +kernel
theorem d_TrustDeskModel_fund_110 : decode kY_TrustDeskModel_fund.2.1 110 = .ok (.iastore, 1) := by decide +kernel
theorem d_TrustDeskModel_fund_111 : decode kY_TrustDeskModel_fund.2.1 111 = .ok (.aload_n 0, 1) := by decide +kernel
theorem d_TrustDeskModel_fund_112 : decode kY_TrustDeskModel_fund.2.1 112 = .ok (.getfield 72, 3) := by decide +kernel
theorem f_TrustDeskModel_72_13 : mj_fl "TrustDeskModel" 72 13 35 := ⟨kR_TrustDeskModel, kF_TrustDeskModel, 72, "TrustDeskModel", rfl, kg_13, by decide, (mj_in1 (List.mem_of_getElem? (i := 1421) (by decide +kernel)) rfl), Or.inl rfl⟩
theorem d_TrustDeskModel_fund_115 : decode kY_TrustDeskModel_fund.2.1 115 = .ok (.iload 5, 2) := by decide +kernel
theorem d_TrustDeskModel_fund_117 : decode kY_TrustDeskModel_fund.2.1 117 = .ok (.lconst 0, 1) := by decide +kernel
theorem d_TrustDeskModel_fund_118 : decode kY_TrustDeskModel_fund.2.1 118 = .ok (.lastore, 1) := by decide +kernel
theorem d_TrustDeskModel_fund_119 : decode kY_TrustDeskModel_fund.2.1 119 = .ok (.aload_n 0, 1) := by decide +kernel
theorem d_TrustDeskModel_fund_120 : decode kY_TrustDeskModel_fund.2.1 120 = .ok (.getfield 76, 3) := by decide +kernel
theorem f_TrustDeskModel_76_13 : mj_fl "TrustDeskModel" 76 13 36 := ⟨kR_TrustDeskModel, kF_TrustDeskModel, 72, "TrustDeskModel", rfl, kg_13, by decide, (mj_in1 (List.mem_of_getElem? (i := 1422) (by decide +kernel)) rfl), Or.inl rfl⟩
theorem d_TrustDeskModel_fund_123 : decode kY_TrustDeskModel_fund.2.1 123 = .ok (.iload 5, 2) := by decide +kernel
theorem d_TrustDeskModel_fund_125 : decode kY_TrustDeskModel_fund.2.1 125 = .ok (.iconst 0, 1) := by decide +kernel
theorem d_TrustDeskModel_fund_126 : decode kY_TrustDeskModel_fund.2.1 126 = .ok (.iastore, 1) := by decide +kernel
theorem d_TrustDeskModel_fund_127 : decode kY_TrustDeskModel_fund.2.1 127 = .ok (.aload_n 0, 1) := by decide +kernel
theorem d_TrustDeskModel_fund_128 : decode kY_TrustDeskModel_fund.2.1 128 = .ok (.getfield 79, 3) := by decide +kernel
theorem f_TrustDeskModel_79_13 : mj_fl "TrustDeskModel" 79 13 37 := ⟨kR_TrustDeskModel, kF_TrustDeskModel, 72, "TrustDeskModel", rfl, kg_13, by decide, (mj_in1 (List.mem_of_getElem? (i := 1423) (by decide +kernel)) rfl), Or.inl rfl⟩
theorem d_TrustDeskModel_fund_131 : decode kY_TrustDeskModel_fund.2.1 131 = .ok (.iload 5, 2) := by decide +kernel
theorem d_TrustDeskModel_fund_133 : decode kY_TrustDeskModel_fund.2.1 133 = .ok (.iconst (-1), 1) := by decide +kernel
theorem d_TrustDeskModel_fund_134 : decode kY_TrustDeskModel_fund.2.1 134 = .ok (.iastore, 1) := by decide +kernel
theorem d_TrustDeskModel_fund_135 : decode kY_TrustDeskModel_fund.2.1 135 = .ok (.aload_n 0, 1) := by decide +kernel
theorem d_TrustDeskModel_fund_136 : decode kY_TrustDeskModel_fund.2.1 136 = .ok (.getfield 82, 3) := by decide +kernel
theorem f_TrustDeskModel_82_13 : mj_fl "TrustDeskModel" 82 13 38 := ⟨kR_TrustDeskModel, kF_TrustDeskModel, 72, "TrustDeskModel", rfl, kg_13, by decide, (mj_in1 (List.mem_of_getElem? (i := 1424) (by decide +kernel)) rfl), Or.inl rfl⟩
theorem d_TrustDeskModel_fund_139 : decode kY_TrustDeskModel_fund.2.1 139 = .ok (.iload 5, 2) := by decide +kernel
theorem d_TrustDeskModel_fund_141 : decode kY_TrustDeskModel_fund.2.1 141 = .ok (.bipush 7, 2) := by decide +kernel
theorem d_TrustDeskModel_fund_143 : decode kY_TrustDeskModel_fund.2.1 143 = .ok (.iastore, 1) := by decide +kernel
theorem d_TrustDeskModel_fund_144 : decode kY_TrustDeskModel_fund.2.1 144 = .ok (.aload_n 0, 1) := by decide +kernel
theorem d_TrustDeskModel_fund_145 : decode kY_TrustDeskModel_fund.2.1 145 = .ok (.getfield 85, 3) := by decide +kernel
theorem f_TrustDeskModel_85_13 : mj_fl "TrustDeskModel" 85 13 39 := ⟨kR_TrustDeskModel, kF_TrustDeskModel, 72, "TrustDeskModel", rfl, kg_13, by decide, (mj_in1 (List.mem_of_getElem? (i := 1425) (by decide +kernel)) rfl), Or.inl rfl⟩
theorem d_TrustDeskModel_fund_148 : decode kY_TrustDeskModel_fund.2.1 148 = .ok (.iload 5, 2) := by decide +kernel
theorem d_TrustDeskModel_fund_150 : decode kY_TrustDeskModel_fund.2.1 150 = .ok (.iconst 1, 1) := by decide +kernel
theorem d_TrustDeskModel_fund_151 : decode kY_TrustDeskModel_fund.2.1 151 = .ok (.iastore, 1) := by decide +kernel
theorem d_TrustDeskModel_fund_152 : decode kY_TrustDeskModel_fund.2.1 152 = .ok (.iconst 0, 1) := by decide +kernel
theorem d_TrustDeskModel_fund_153 : decode kY_TrustDeskModel_fund.2.1 153 = .ok (.istore 6, 2) := by decide +kernel
theorem d_TrustDeskModel_fund_155 : decode kY_TrustDeskModel_fund.2.1 155 = .ok (.iload 6, 2) := by decide +kernel
theorem d_TrustDeskModel_fund_157 : decode kY_TrustDeskModel_fund.2.1 157 = .ok (.aload_n 0, 1) := by decide +kernel
theorem d_TrustDeskModel_fund_158 : decode kY_TrustDeskModel_fund.2.1 158 = .ok (.getfield 23, 3) := by decide +kernel
theorem d_TrustDeskModel_fund_161 : decode kY_TrustDeskModel_fund.2.1 161 = .ok (.iload_n 3, 1) := by decide +kernel
theorem d_TrustDeskModel_fund_162 : decode kY_TrustDeskModel_fund.2.1 162 = .ok (.iaload, 1) := by decide +kernel
theorem d_TrustDeskModel_fund_163 : decode kY_TrustDeskModel_fund.2.1 163 = .ok (.if_icmp .ge 111, 3) := by decide +kernel
theorem d_TrustDeskModel_fund_274 : decode kY_TrustDeskModel_fund.2.1 274 = .ok (.aload_n 0, 1) := by decide +kernel
theorem d_TrustDeskModel_fund_275 : decode kY_TrustDeskModel_fund.2.1 275 = .ok (.getfield 92, 3) := by decide +kernel
theorem f_TrustDeskModel_92_13 : mj_fl "TrustDeskModel" 92 13 41 := ⟨kR_TrustDeskModel, kF_TrustDeskModel, 72, "TrustDeskModel", rfl, kg_13, by decide, (mj_in1 (List.mem_of_getElem? (i := 1427) (by decide +kernel)) rfl), Or.inl rfl⟩
theorem d_TrustDeskModel_fund_278 : decode kY_TrustDeskModel_fund.2.1 278 = .ok (.bipush 12, 2) := by decide +kernel
theorem d_TrustDeskModel_fund_280 : decode kY_TrustDeskModel_fund.2.1 280 = .ok (.iload 5, 2) := by decide +kernel
theorem d_TrustDeskModel_fund_282 : decode kY_TrustDeskModel_fund.2.1 282 = .ok (.imul, 1) := by decide +kernel
theorem d_TrustDeskModel_fund_283 : decode kY_TrustDeskModel_fund.2.1 283 = .ok (.iload 5, 2) := by decide +kernel
theorem d_TrustDeskModel_fund_285 : decode kY_TrustDeskModel_fund.2.1 285 = .ok (.iadd, 1) := by decide +kernel
theorem d_TrustDeskModel_fund_286 : decode kY_TrustDeskModel_fund.2.1 286 = .ok (.ldc_w 432, 3) := by decide +kernel
theorem k_TrustDeskModel_432 : Cond.constant "TrustDeskModel" 432 1000000 ∈ mj_T := (mj_in1 (List.mem_of_getElem? (i := 1820) (by decide +kernel)) rfl)
theorem d_TrustDeskModel_fund_289 : decode kY_TrustDeskModel_fund.2.1 289 = .ok (.iastore, 1) := by decide +kernel
theorem d_TrustDeskModel_fund_290 : decode kY_TrustDeskModel_fund.2.1 290 = .ok (.aload_n 0, 1) := by decide +kernel
theorem d_TrustDeskModel_fund_291 : decode kY_TrustDeskModel_fund.2.1 291 = .ok (.dup, 1) := by decide +kernel
theorem d_TrustDeskModel_fund_292 : decode kY_TrustDeskModel_fund.2.1 292 = .ok (.getfield 415, 3) := by decide +kernel
theorem d_TrustDeskModel_fund_295 : decode kY_TrustDeskModel_fund.2.1 295 = .ok (.iconst 1, 1) := by decide +kernel
theorem d_TrustDeskModel_fund_296 : decode kY_TrustDeskModel_fund.2.1 296 = .ok (.iadd, 1) := by decide +kernel
theorem d_TrustDeskModel_fund_297 : decode kY_TrustDeskModel_fund.2.1 297 = .ok (.putfield 415, 3) := by decide +kernel
theorem p_TrustDeskModel_415_13 : mj_fp "TrustDeskModel" 415 13 32 (kt_TrustDeskModel 32) false := ⟨kR_TrustDeskModel, kF_TrustDeskModel, 72, "TrustDeskModel", kt_TrustDeskModel, rfl, kg_13, by decide, (mj_in1 (List.mem_of_getElem? (i := 1418) (by decide +kernel)) rfl), Or.inl rfl, kto_TrustDeskModel, kn_TrustDeskModel, rfl, rfl, fun h => by cases h⟩
theorem d_TrustDeskModel_fund_300 : decode kY_TrustDeskModel_fund.2.1 300 = .ok (.iload 5, 2) := by decide +kernel
theorem d_TrustDeskModel_fund_302 : decode kY_TrustDeskModel_fund.2.1 302 = .ok (.ireturn, 1) := by decide +kernel
theorem d_TrustDeskModel_fund_166 : decode kY_TrustDeskModel_fund.2.1 166 = .ok (.bipush 20, 2) := by decide +kernel
theorem d_TrustDeskModel_fund_168 : decode kY_TrustDeskModel_fund.2.1 168 = .ok (.iload_n 3, 1) := by decide +kernel
theorem d_TrustDeskModel_fund_169 : decode kY_TrustDeskModel_fund.2.1 169 = .ok (.imul, 1) := by decide +kernel
theorem d_TrustDeskModel_fund_170 : decode kY_TrustDeskModel_fund.2.1 170 = .ok (.iload 6, 2) := by decide +kernel
theorem d_TrustDeskModel_fund_172 : decode kY_TrustDeskModel_fund.2.1 172 = .ok (.iadd, 1) := by decide +kernel
theorem d_TrustDeskModel_fund_173 : decode kY_TrustDeskModel_fund.2.1 173 = .ok (.istore 7, 2) := by decide +kernel
theorem d_TrustDeskModel_fund_175 : decode kY_TrustDeskModel_fund.2.1 175 = .ok (.aload_n 0, 1) := by decide +kernel
theorem d_TrustDeskModel_fund_176 : decode kY_TrustDeskModel_fund.2.1 176 = .ok (.getfield 26, 3) := by decide +kernel
theorem d_TrustDeskModel_fund_179 : decode kY_TrustDeskModel_fund.2.1 179 = .ok (.iload 7, 2) := by decide +kernel
theorem d_TrustDeskModel_fund_181 : decode kY_TrustDeskModel_fund.2.1 181 = .ok (.iaload, 1) := by decide +kernel
theorem d_TrustDeskModel_fund_182 : decode kY_TrustDeskModel_fund.2.1 182 = .ok (.bipush 7, 2) := by decide +kernel
theorem d_TrustDeskModel_fund_184 : decode kY_TrustDeskModel_fund.2.1 184 = .ok (.if_icmp .ne 20, 3) := by decide +kernel
theorem d_TrustDeskModel_fund_204 : decode kY_TrustDeskModel_fund.2.1 204 = .ok (.aload_n 0, 1) := by decide +kernel
theorem d_TrustDeskModel_fund_205 : decode kY_TrustDeskModel_fund.2.1 205 = .ok (.getfield 26, 3) := by decide +kernel
theorem d_TrustDeskModel_fund_208 : decode kY_TrustDeskModel_fund.2.1 208 = .ok (.iload 7, 2) := by decide +kernel
theorem d_TrustDeskModel_fund_210 : decode kY_TrustDeskModel_fund.2.1 210 = .ok (.iaload, 1) := by decide +kernel
theorem d_TrustDeskModel_fund_211 : decode kY_TrustDeskModel_fund.2.1 211 = .ok (.bipush 9, 2) := by decide +kernel
theorem d_TrustDeskModel_fund_213 : decode kY_TrustDeskModel_fund.2.1 213 = .ok (.if_icmp .ne 31, 3) := by decide +kernel
theorem d_TrustDeskModel_fund_244 : decode kY_TrustDeskModel_fund.2.1 244 = .ok (.aload_n 0, 1) := by decide +kernel
theorem d_TrustDeskModel_fund_245 : decode kY_TrustDeskModel_fund.2.1 245 = .ok (.getfield 26, 3) := by decide +kernel
theorem d_TrustDeskModel_fund_248 : decode kY_TrustDeskModel_fund.2.1 248 = .ok (.iload 7, 2) := by decide +kernel
theorem d_TrustDeskModel_fund_250 : decode kY_TrustDeskModel_fund.2.1 250 = .ok (.iaload, 1) := by decide +kernel
theorem d_TrustDeskModel_fund_251 : decode kY_TrustDeskModel_fund.2.1 251 = .ok (.bipush 8, 2) := by decide +kernel
theorem d_TrustDeskModel_fund_253 : decode kY_TrustDeskModel_fund.2.1 253 = .ok (.if_icmp .ne 15, 3) := by decide +kernel
theorem d_TrustDeskModel_fund_268 : decode kY_TrustDeskModel_fund.2.1 268 = .ok (.iinc 6 1, 3) := by decide +kernel
theorem d_TrustDeskModel_fund_271 : decode kY_TrustDeskModel_fund.2.1 271 = .ok (.goto (-116), 3) := by decide +kernel
theorem d_TrustDeskModel_fund_256 : decode kY_TrustDeskModel_fund.2.1 256 = .ok (.aload_n 0, 1) := by decide +kernel
theorem d_TrustDeskModel_fund_257 : decode kY_TrustDeskModel_fund.2.1 257 = .ok (.iload 5, 2) := by decide +kernel
theorem d_TrustDeskModel_fund_259 : decode kY_TrustDeskModel_fund.2.1 259 = .ok (.iload_n 3, 1) := by decide +kernel
theorem d_TrustDeskModel_fund_260 : decode kY_TrustDeskModel_fund.2.1 260 = .ok (.iload 7, 2) := by decide +kernel
theorem d_TrustDeskModel_fund_262 : decode kY_TrustDeskModel_fund.2.1 262 = .ok (.iconst 0, 1) := by decide +kernel
theorem d_TrustDeskModel_fund_263 : decode kY_TrustDeskModel_fund.2.1 263 = .ok (.iconst 0, 1) := by decide +kernel
theorem d_TrustDeskModel_fund_264 : decode kY_TrustDeskModel_fund.2.1 264 = .ok (.iconst (-1), 1) := by decide +kernel
theorem d_TrustDeskModel_fund_265 : decode kY_TrustDeskModel_fund.2.1 265 = .ok (.invokevirtual 428, 3) := by decide +kernel
abbrev kY_TrustDeskModel_addEnd : mj_Y := (⟨"TrustDeskModel", "addEnd", "(IIIIII)V"⟩, prog_14_method_54_code, 8, (Option.none : Option Jvm.ClassFile.FieldType))
theorem d_TrustDeskModel_addEnd_0 : decode kY_TrustDeskModel_addEnd.2.1 0 = .ok (.bipush 80, 2) := by decide +kernel
theorem d_TrustDeskModel_addEnd_2 : decode kY_TrustDeskModel_addEnd.2.1 2 = .ok (.iload_n 1, 1) := by decide +kernel
theorem d_TrustDeskModel_addEnd_3 : decode kY_TrustDeskModel_addEnd.2.1 3 = .ok (.imul, 1) := by decide +kernel
theorem d_TrustDeskModel_addEnd_4 : decode kY_TrustDeskModel_addEnd.2.1 4 = .ok (.aload_n 0, 1) := by decide +kernel
theorem d_TrustDeskModel_addEnd_5 : decode kY_TrustDeskModel_addEnd.2.1 5 = .ok (.getfield 98, 3) := by decide +kernel
theorem f_TrustDeskModel_98_13 : mj_fl "TrustDeskModel" 98 13 43 := ⟨kR_TrustDeskModel, kF_TrustDeskModel, 72, "TrustDeskModel", rfl, kg_13, by decide, (mj_in1 (List.mem_of_getElem? (i := 1429) (by decide +kernel)) rfl), Or.inl rfl⟩
theorem d_TrustDeskModel_addEnd_8 : decode kY_TrustDeskModel_addEnd.2.1 8 = .ok (.iload_n 1, 1) := by decide +kernel
theorem d_TrustDeskModel_addEnd_9 : decode kY_TrustDeskModel_addEnd.2.1 9 = .ok (.iaload, 1) := by decide +kernel
theorem d_TrustDeskModel_addEnd_10 : decode kY_TrustDeskModel_addEnd.2.1 10 = .ok (.iadd, 1) := by decide +kernel
theorem d_TrustDeskModel_addEnd_11 : decode kY_TrustDeskModel_addEnd.2.1 11 = .ok (.istore 7, 2) := by decide +kernel
theorem d_TrustDeskModel_addEnd_13 : decode kY_TrustDeskModel_addEnd.2.1 13 = .ok (.aload_n 0, 1) := by decide +kernel
theorem d_TrustDeskModel_addEnd_14 : decode kY_TrustDeskModel_addEnd.2.1 14 = .ok (.getfield 101, 3) := by decide +kernel
theorem f_TrustDeskModel_101_13 : mj_fl "TrustDeskModel" 101 13 44 := ⟨kR_TrustDeskModel, kF_TrustDeskModel, 72, "TrustDeskModel", rfl, kg_13, by decide, (mj_in1 (List.mem_of_getElem? (i := 1430) (by decide +kernel)) rfl), Or.inl rfl⟩
theorem d_TrustDeskModel_addEnd_17 : decode kY_TrustDeskModel_addEnd.2.1 17 = .ok (.iload 7, 2) := by decide +kernel
theorem d_TrustDeskModel_addEnd_19 : decode kY_TrustDeskModel_addEnd.2.1 19 = .ok (.iload_n 2, 1) := by decide +kernel
theorem d_TrustDeskModel_addEnd_20 : decode kY_TrustDeskModel_addEnd.2.1 20 = .ok (.iastore, 1) := by decide +kernel
theorem d_TrustDeskModel_addEnd_21 : decode kY_TrustDeskModel_addEnd.2.1 21 = .ok (.aload_n 0, 1) := by decide +kernel
theorem d_TrustDeskModel_addEnd_22 : decode kY_TrustDeskModel_addEnd.2.1 22 = .ok (.getfield 104, 3) := by decide +kernel
theorem f_TrustDeskModel_104_13 : mj_fl "TrustDeskModel" 104 13 45 := ⟨kR_TrustDeskModel, kF_TrustDeskModel, 72, "TrustDeskModel", rfl, kg_13, by decide, (mj_in1 (List.mem_of_getElem? (i := 1431) (by decide +kernel)) rfl), Or.inl rfl⟩
theorem d_TrustDeskModel_addEnd_25 : decode kY_TrustDeskModel_addEnd.2.1 25 = .ok (.iload 7, 2) := by decide +kernel
theorem d_TrustDeskModel_addEnd_27 : decode kY_TrustDeskModel_addEnd.2.1 27 = .ok (.iload_n 3, 1) := by decide +kernel
theorem d_TrustDeskModel_addEnd_28 : decode kY_TrustDeskModel_addEnd.2.1 28 = .ok (.iastore, 1) := by decide +kernel
theorem d_TrustDeskModel_addEnd_29 : decode kY_TrustDeskModel_addEnd.2.1 29 = .ok (.aload_n 0, 1) := by decide +kernel
theorem d_TrustDeskModel_addEnd_30 : decode kY_TrustDeskModel_addEnd.2.1 30 = .ok (.getfield 107, 3) := by decide +kernel
theorem f_TrustDeskModel_107_13 : mj_fl "TrustDeskModel" 107 13 46 := ⟨kR_TrustDeskModel, kF_TrustDeskModel, 72, "TrustDeskModel", rfl, kg_13, by decide, (mj_in1 (List.mem_of_getElem? (i := 1432) (by decide +kernel)) rfl), Or.inl rfl⟩
theorem d_TrustDeskModel_addEnd_33 : decode kY_TrustDeskModel_addEnd.2.1 33 = .ok (.iload 7, 2) := by decide +kernel
theorem d_TrustDeskModel_addEnd_35 : decode kY_TrustDeskModel_addEnd.2.1 35 = .ok (.iload 4, 2) := by decide +kernel
theorem d_TrustDeskModel_addEnd_37 : decode kY_TrustDeskModel_addEnd.2.1 37 = .ok (.iastore, 1) := by decide +kernel
theorem d_TrustDeskModel_addEnd_38 : decode kY_TrustDeskModel_addEnd.2.1 38 = .ok (.aload_n 0, 1) := by decide +kernel
theorem d_TrustDeskModel_addEnd_39 : decode kY_TrustDeskModel_addEnd.2.1 39 = .ok (.getfield 110, 3) := by decide +kernel
theorem f_TrustDeskModel_110_13 : mj_fl "TrustDeskModel" 110 13 47 := ⟨kR_TrustDeskModel, kF_TrustDeskModel, 72, "TrustDeskModel", rfl, kg_13, by decide, (mj_in1 (List.mem_of_getElem? (i := 1433) (by decide +kernel)) rfl), Or.inl rfl⟩
theorem d_TrustDeskModel_addEnd_42 : decode kY_TrustDeskModel_addEnd.2.1 42 = .ok (.iload 7, 2) := by decide +kernel
theorem d_TrustDeskModel_addEnd_44 : decode kY_TrustDeskModel_addEnd.2.1 44 = .ok (.iload 5, 2) := by decide +kernel
theorem d_TrustDeskModel_addEnd_46 : decode kY_TrustDeskModel_addEnd.2.1 46 = .ok (.iastore, 1) := by decide +kernel
theorem d_TrustDeskModel_addEnd_47 : decode kY_TrustDeskModel_addEnd.2.1 47 = .ok (.aload_n 0, 1) := by decide +kernel
theorem d_TrustDeskModel_addEnd_48 : decode kY_TrustDeskModel_addEnd.2.1 48 = .ok (.getfield 113, 3) := by decide +kernel
theorem f_TrustDeskModel_113_13 : mj_fl "TrustDeskModel" 113 13 48 := ⟨kR_TrustDeskModel, kF_TrustDeskModel, 72, "TrustDeskModel", rfl, kg_13, by decide, (mj_in1 (List.mem_of_getElem? (i := 1434) (by decide +kernel)) rfl), Or.inl rfl⟩
theorem d_TrustDeskModel_addEnd_51 : decode kY_TrustDeskModel_addEnd.2.1 51 = .ok (.iload 7, 2) := by decide +kernel
theorem d_TrustDeskModel_addEnd_53 : decode kY_TrustDeskModel_addEnd.2.1 53 = .ok (.iload 6, 2) := by decide +kernel
theorem d_TrustDeskModel_addEnd_55 : decode kY_TrustDeskModel_addEnd.2.1 55 = .ok (.iastore, 1) := by decide +kernel
theorem d_TrustDeskModel_addEnd_56 : decode kY_TrustDeskModel_addEnd.2.1 56 = .ok (.aload_n 0, 1) := by decide +kernel
theorem d_TrustDeskModel_addEnd_57 : decode kY_TrustDeskModel_addEnd.2.1 57 = .ok (.getfield 98, 3) := by decide +kernel
theorem d_TrustDeskModel_addEnd_60 : decode kY_TrustDeskModel_addEnd.2.1 60 = .ok (.iload_n 1, 1) := by decide +kernel
theorem d_TrustDeskModel_addEnd_61 : decode kY_TrustDeskModel_addEnd.2.1 61 = .ok (.dup2, 1) := by decide +kernel
theorem d_TrustDeskModel_addEnd_62 : decode kY_TrustDeskModel_addEnd.2.1 62 = .ok (.iaload, 1) := by decide +kernel
theorem d_TrustDeskModel_addEnd_63 : decode kY_TrustDeskModel_addEnd.2.1 63 = .ok (.iconst 1, 1) := by decide +kernel
theorem d_TrustDeskModel_addEnd_64 : decode kY_TrustDeskModel_addEnd.2.1 64 = .ok (.iadd, 1) := by decide +kernel
theorem d_TrustDeskModel_addEnd_65 : decode kY_TrustDeskModel_addEnd.2.1 65 = .ok (.iastore, 1) := by decide +kernel
theorem d_TrustDeskModel_addEnd_66 : decode kY_TrustDeskModel_addEnd.2.1 66 = .ok (.return_, 1) := by decide +kernel
def w_TrustDeskModel_addEnd_x : List Nat := [20043, 20044, 20045, 20046, 20047, 20048]
set_option maxHeartbeats 100000000 in theorem tc_TrustDeskModel_addEnd_x {g : mj_G} {l : Launch} {d : Nat} {T0 : tm_H} {M0 : mj_M} {n0 x9 : Nat} {o0 : Nat} {x1 : Int32} {x2 : Int32} {x3 : Int32} {x4 : Int32} {x5 : Int32} {x6 : Int32} (h_o0 : T0 o0 = some (0, 13, 0)) (hn0 : 0 ≤ x1.toInt ∧ x1.toInt ≤ 11) (hn1 : 0 ≤ x2.toInt ∧ x2.toInt ≤ 43) (hn2 : 0 ≤ x3.toInt ∧ x3.toInt ≤ 899) (yR : rI M0 o0) (ya : ra M0 o0 43 x1.toNatClampNeg ≤ 71) (I0 : tm_I tm_FT (tm_in w_TrustDeskModel_addEnd_x) x9 T0 M0 n0 T0 M0 n0) : mj_Met g l kY_TrustDeskModel_addEnd d [.ref o0, .int x1, .int x2, .int x3, .int x4, .int x5, .int x6] M0 n0 0 0 (tm_Q tm_FT (tm_in w_TrustDeskModel_addEnd_x) x9 T0 M0 n0 (fun r _ M => r = none ∧ rI M o0 ∧ (rAd M0 M o0 x1.toNatClampNeg x2.toInt x3.toInt))) := by
  refine mj_enter (by decide) (Nat.le_of_ble_eq_true rfl) ?_
  have K1 : sA [43] M0 M0 o0 := sA.rf
  have K2 : sA [44] M0 M0 o0 := sA.rf
  have K3 : sA [45] M0 M0 o0 := sA.rf
  refine mv_bipush (v := 80) d_TrustDeskModel_addEnd_0 (by decide) ?_
  refine mv_iload_n d_TrustDeskModel_addEnd_2 rfl rfl ?_
  refine mv_imul d_TrustDeskModel_addEnd_3 ?_
  refine mv_aload_n d_TrustDeskModel_addEnd_4 rfl rfl ?_
  obtain ⟨a5, q4, t_a5⟩ := tm_atR I0 h_o0 (k := 43) rfl
  refine tr_getK q4 d_TrustDeskModel_addEnd_5 f_TrustDeskModel_98_13 ?_
  refine mv_iload_n d_TrustDeskModel_addEnd_8 rfl rfl ?_
  refine tr_ialdR (o := o0) (k := 43) I0 q4 t_a5 (by decide) d_TrustDeskModel_addEnd_9 (vp_in_iff.mpr (by omega)) (fun v6 e7 => ?_)
  have := yR.a (k := 43) rfl (x1 : Int32).toNatClampNeg
  refine mv_iadd d_TrustDeskModel_addEnd_10 ?_
  refine mv_istore (lv' := [(7, .int ((80 * x1) + v6)), (0, .ref o0), (1, .int x1), (2, .int x2), (3, .int x3), (4, .int x4), (5, .int x5), (6, .int x6)]) d_TrustDeskModel_addEnd_11 (by decide) rfl ?_
  refine mv_aload_n d_TrustDeskModel_addEnd_13 rfl rfl ?_
  obtain ⟨a9, q8, t_a9⟩ := tm_atR I0 h_o0 (k := 44) rfl
  refine tr_getK q8 d_TrustDeskModel_addEnd_14 f_TrustDeskModel_101_13 ?_
  refine mv_iload d_TrustDeskModel_addEnd_17 rfl ?_
  refine mv_iload_n d_TrustDeskModel_addEnd_19 rfl rfl ?_
  have b10 : (80 * x1 : Int32).toInt = (80 * x1.toInt) := mz_mul2 (by decide) rfl (by omega) (by omega)
  have b11 : ((80 * x1) + v6 : Int32).toInt = ((80 * x1.toInt) + v6.toInt) := mz_add2 b10 rfl (by omega) (by omega)
  refine tr_iastR (k := 44) I0 yR (I0.up h_o0) q8 t_a9 (by decide) (by decide) (fun lo hi h => by cases h; exact ⟨by show (0 : Int) ≤ x2.toInt; omega, by show x2.toInt ≤ (43 : Int); omega⟩) (Or.inl (by decide)) d_TrustDeskModel_addEnd_20 (vp_in_iff.mpr (by omega)) (fun M12 I13 K14 R15 E16 A17 V18 => ?_)
  have z19 := (A17 43 (by decide) rfl x1.toNatClampNeg)
  have K20 : sA [43] M0 M12 o0 := K1.trans (sA_a A17 (by decide +kernel))
  have K21 : sA [45] M0 M12 o0 := K3.trans (sA_a A17 (by decide +kernel))
  have K22 : ∀ i : Nat, ra M12 o0 44 i = if (i : Int) = 80 * x1.toNatClampNeg + ra M0 o0 43 x1.toNatClampNeg then x2.toInt else ra M0 o0 44 i := fun i => by have e9 := ad_of E16 (show ((((80 * x1) + v6)).toNatClampNeg : Int) = 80 * x1.toNatClampNeg + ra M0 o0 43 x1.toNatClampNeg by have := mz_nat9 (i := ((80 * x1) + v6)) (by omega); have := mz_nat9 (i := x1) (by omega); omega) i; have e8 := K2 44 rfl; rw [e8] at e9; exact e9
  refine mv_aload_n d_TrustDeskModel_addEnd_21 rfl rfl ?_
  obtain ⟨a24, q23, t_a24⟩ := tm_atR I13 h_o0 (k := 45) rfl
  refine tr_getK q23 d_TrustDeskModel_addEnd_22 f_TrustDeskModel_104_13 ?_
  refine mv_iload d_TrustDeskModel_addEnd_25 rfl ?_
  refine mv_iload_n d_TrustDeskModel_addEnd_27 rfl rfl ?_
  have b25 : (80 * x1 : Int32).toInt = (80 * x1.toInt) := mz_mul2 (by decide) rfl (by omega) (by omega)
  have b26 : ((80 * x1) + v6 : Int32).toInt = ((80 * x1.toInt) + v6.toInt) := mz_add2 b25 rfl (by omega) (by omega)
  refine tr_iastR (k := 45) I13 R15 (I13.up h_o0) q23 t_a24 (by decide) (by decide) (fun lo hi h => by cases h; exact ⟨by show (0 : Int) ≤ x3.toInt; omega, by show x3.toInt ≤ (899 : Int); omega⟩) (Or.inl (by decide)) d_TrustDeskModel_addEnd_28 (vp_in_iff.mpr (by omega)) (fun M27 I28 K29 R30 E31 A32 V33 => ?_)
  have z34 := (A32 43 (by decide) rfl x1.toNatClampNeg).trans z19
  have K35 : sA [43] M0 M27 o0 := K20.trans (sA_a A32 (by decide +kernel))
  have K36 : ∀ i : Nat, ra M27 o0 44 i = if (i : Int) = 80 * x1.toNatClampNeg + ra M0 o0 43 x1.toNatClampNeg then x2.toInt else ra M0 o0 44 i := (by have e9 := ((sA_a A32 (by decide +kernel)) : sA [44] _ _ _) 44 rfl; rw [e9]; exact K22)
  have K37 : ∀ i : Nat, ra M27 o0 45 i = if (i : Int) = 80 * x1.toNatClampNeg + ra M0 o0 43 x1.toNatClampNeg then x3.toInt else ra M0 o0 45 i := fun i => by have e9 := ad_of E31 (show ((((80 * x1) + v6)).toNatClampNeg : Int) = 80 * x1.toNatClampNeg + ra M0 o0 43 x1.toNatClampNeg by have := mz_nat9 (i := ((80 * x1) + v6)) (by omega); have := mz_nat9 (i := x1) (by omega); omega) i; have e8 := K21 45 rfl; rw [e8] at e9; exact e9
  clear z19
  refine mv_aload_n d_TrustDeskModel_addEnd_29 rfl rfl ?_
  obtain ⟨a39, q38, t_a39⟩ := tm_atR I28 h_o0 (k := 46) rfl
  refine tr_getK q38 d_TrustDeskModel_addEnd_30 f_TrustDeskModel_107_13 ?_
  refine mv_iload d_TrustDeskModel_addEnd_33 rfl ?_
  refine mv_iload d_TrustDeskModel_addEnd_35 rfl ?_
  have b40 : (80 * x1 : Int32).toInt = (80 * x1.toInt) := mz_mul2 (by decide) rfl (by omega) (by omega)
  have b41 : ((80 * x1) + v6 : Int32).toInt = ((80 * x1.toInt) + v6.toInt) := mz_add2 b40 rfl (by omega) (by omega)
  refine tr_iastR (k := 46) I28 R30 (I28.up h_o0) q38 t_a39 (by decide) (by decide) (fun lo hi h => by cases h) (Or.inl (by decide)) d_TrustDeskModel_addEnd_37 (vp_in_iff.mpr (by omega)) (fun M42 I43 K44 R45 E46 A47 V48 => ?_)
  have z49 := (A47 43 (by decide) rfl x1.toNatClampNeg).trans z34
  have K50 : sA [43] M0 M42 o0 := K35.trans (sA_a A47 (by decide +kernel))
  have K51 : ∀ i : Nat, ra M42 o0 44 i = if (i : Int) = 80 * x1.toNatClampNeg + ra M0 o0 43 x1.toNatClampNeg then x2.toInt else ra M0 o0 44 i := (by have e9 := ((sA_a A47 (by decide +kernel)) : sA [44] _ _ _) 44 rfl; rw [e9]; exact K36)
  have K52 : ∀ i : Nat, ra M42 o0 45 i = if (i : Int) = 80 * x1.toNatClampNeg + ra M0 o0 43 x1.toNatClampNeg then x3.toInt else ra M0 o0 45 i := (by have e9 := ((sA_a A47 (by decide +kernel)) : sA [45] _ _ _) 45 rfl; rw [e9]; exact K37)
  clear z34
  refine mv_aload_n d_TrustDeskModel_addEnd_38 rfl rfl ?_
  obtain ⟨a54, q53, t_a54⟩ := tm_atR I43 h_o0 (k := 47) rfl
  refine tr_getK q53 d_TrustDeskModel_addEnd_39 f_TrustDeskModel_110_13 ?_
  refine mv_iload d_TrustDeskModel_addEnd_42 rfl ?_
  refine mv_iload d_TrustDeskModel_addEnd_44 rfl ?_
  have b55 : (80 * x1 : Int32).toInt = (80 * x1.toInt) := mz_mul2 (by decide) rfl (by omega) (by omega)
  have b56 : ((80 * x1) + v6 : Int32).toInt = ((80 * x1.toInt) + v6.toInt) := mz_add2 b55 rfl (by omega) (by omega)
  refine tr_iastR (k := 47) I43 R45 (I43.up h_o0) q53 t_a54 (by decide) (by decide) (fun lo hi h => by cases h) (Or.inl (by decide)) d_TrustDeskModel_addEnd_46 (vp_in_iff.mpr (by omega)) (fun M57 I58 K59 R60 E61 A62 V63 => ?_)
  have z64 := (A62 43 (by decide) rfl x1.toNatClampNeg).trans z49
  have K65 : sA [43] M0 M57 o0 := K50.trans (sA_a A62 (by decide +kernel))
  have K66 : ∀ i : Nat, ra M57 o0 44 i = if (i : Int) = 80 * x1.toNatClampNeg + ra M0 o0 43 x1.toNatClampNeg then x2.toInt else ra M0 o0 44 i := (by have e9 := ((sA_a A62 (by decide +kernel)) : sA [44] _ _ _) 44 rfl; rw [e9]; exact K51)
  have K67 : ∀ i : Nat, ra M57 o0 45 i = if (i : Int) = 80 * x1.toNatClampNeg + ra M0 o0 43 x1.toNatClampNeg then x3.toInt else ra M0 o0 45 i := (by have e9 := ((sA_a A62 (by decide +kernel)) : sA [45] _ _ _) 45 rfl; rw [e9]; exact K52)
  clear z49
  refine mv_aload_n d_TrustDeskModel_addEnd_47 rfl rfl ?_
  obtain ⟨a69, q68, t_a69⟩ := tm_atR I58 h_o0 (k := 48) rfl
  refine tr_getK q68 d_TrustDeskModel_addEnd_48 f_TrustDeskModel_113_13 ?_
  refine mv_iload d_TrustDeskModel_addEnd_51 rfl ?_
  refine mv_iload d_TrustDeskModel_addEnd_53 rfl ?_
  have b70 : (80 * x1 : Int32).toInt = (80 * x1.toInt) := mz_mul2 (by decide) rfl (by omega) (by omega)
  have b71 : ((80 * x1) + v6 : Int32).toInt = ((80 * x1.toInt) + v6.toInt) := mz_add2 b70 rfl (by omega) (by omega)
  refine tr_iastR (k := 48) I58 R60 (I58.up h_o0) q68 t_a69 (by decide) (by decide) (fun lo hi h => by cases h) (Or.inl (by decide)) d_TrustDeskModel_addEnd_55 (vp_in_iff.mpr (by omega)) (fun M72 I73 K74 R75 E76 A77 V78 => ?_)
  have z79 := (A77 43 (by decide) rfl x1.toNatClampNeg).trans z64
  have K80 : sA [43] M0 M72 o0 := K65.trans (sA_a A77 (by decide +kernel))
  have K81 : ∀ i : Nat, ra M72 o0 44 i = if (i : Int) = 80 * x1.toNatClampNeg + ra M0 o0 43 x1.toNatClampNeg then x2.toInt else ra M0 o0 44 i := (by have e9 := ((sA_a A77 (by decide +kernel)) : sA [44] _ _ _) 44 rfl; rw [e9]; exact K66)
  have K82 : ∀ i : Nat, ra M72 o0 45 i = if (i : Int) = 80 * x1.toNatClampNeg + ra M0 o0 43 x1.toNatClampNeg then x3.toInt else ra M0 o0 45 i := (by have e9 := ((sA_a A77 (by decide +kernel)) : sA [45] _ _ _) 45 rfl; rw [e9]; exact K67)
  clear z64
  refine mv_aload_n d_TrustDeskModel_addEnd_56 rfl rfl ?_
  refine tr_getK (k := 43) (K74 _ 13 43 _ (K59 _ 13 43 _ (K44 _ 13 43 _ (K29 _ 13 43 _ (K14 _ 13 43 _ q4))))) d_TrustDeskModel_addEnd_57 f_TrustDeskModel_98_13 ?_
  refine mv_iload_n d_TrustDeskModel_addEnd_60 rfl rfl ?_
  refine mv_dup2_11 d_TrustDeskModel_addEnd_61 rfl rfl ?_
  refine tr_ialdR (o := o0) (k := 43) I73 (K74 _ 13 43 _ (K59 _ 13 43 _ (K44 _ 13 43 _ (K29 _ 13 43 _ (K14 _ 13 43 _ q4))))) t_a5 (by decide) d_TrustDeskModel_addEnd_62 (vp_in_iff.mpr (by omega)) (fun v83 e84 => ?_)
  have := R75.a (k := 43) rfl (x1 : Int32).toNatClampNeg
  have : v83.toInt = _ := Eq.trans e84 z79
  refine mv_iconst (v := 1) d_TrustDeskModel_addEnd_63 (by decide) ?_
  refine mv_iadd d_TrustDeskModel_addEnd_64 ?_
  have b85 : (v83 + 1 : Int32).toInt = (v83.toInt + 1) := mz_add2 rfl (by decide) (by omega) (by omega)
  refine tr_iastR (k := 43) I73 R75 (I73.up h_o0) (K74 _ 13 43 _ (K59 _ 13 43 _ (K44 _ 13 43 _ (K29 _ 13 43 _ (K14 _ 13 43 _ q4))))) t_a5 (by decide) (by decide) (fun lo hi h => by cases h; exact ⟨by show (0 : Int) ≤ (v83 + 1).toInt; omega, by show (v83 + 1).toInt ≤ (72 : Int); omega⟩) (Or.inl (by decide)) d_TrustDeskModel_addEnd_65 (vp_in_iff.mpr (by omega)) (fun M86 I87 K88 R89 E90 A91 V92 => ?_)
  have K93 : ∀ i : Nat, ra M86 o0 44 i = if (i : Int) = 80 * x1.toNatClampNeg + ra M0 o0 43 x1.toNatClampNeg then x2.toInt else ra M0 o0 44 i := (by have e9 := ((sA_a A91 (by decide +kernel)) : sA [44] _ _ _) 44 rfl; rw [e9]; exact K81)
  have K94 : ∀ i : Nat, ra M86 o0 45 i = if (i : Int) = 80 * x1.toNatClampNeg + ra M0 o0 43 x1.toNatClampNeg then x3.toInt else ra M0 o0 45 i := (by have e9 := ((sA_a A91 (by decide +kernel)) : sA [45] _ _ _) 45 rfl; rw [e9]; exact K82)
  have K95 : ∀ i : Nat, ra M86 o0 43 i = if i = x1.toNatClampNeg then ra M0 o0 43 x1.toNatClampNeg + 1 else ra M0 o0 43 i := fun i => by have e9 := K80 43 rfl; rw [E90 i, e9]; by_cases h9 : i = x1.toNatClampNeg; (rw [if_pos h9, if_pos h9]; omega); (rw [if_neg h9, if_neg h9])
  exact mv_vret d_TrustDeskModel_addEnd_66 rfl ⟨_, I87, rfl, R89, ⟨K93, K94, K95⟩⟩
theorem lV_TrustDeskModel_428 : mj_lV "TrustDeskModel" 428 kY_TrustDeskModel_addEnd 6 := ⟨⟨(mj_in1 (List.mem_of_getElem? (i := 1816) (by decide +kernel)) rfl), (mj_in1 (List.mem_of_getElem? (i := 10) (by decide +kernel)) rfl), (mj_in1 (List.mem_of_getElem? (i := 1819) (by decide +kernel)) rfl), by decide, rfl, by decide⟩, (mj_in1 (List.mem_of_getElem? (i := 1818) (by decide +kernel)) rfl), (mj_in (List.mem_append_left _ (List.mem_of_getElem? (i := 110) (by decide +kernel))) rfl)⟩
theorem d_TrustDeskModel_fund_216 : decode kY_TrustDeskModel_fund.2.1 216 = .ok (.aload_n 0, 1) := by decide +kernel
theorem d_TrustDeskModel_fund_217 : decode kY_TrustDeskModel_fund.2.1 217 = .ok (.getfield 82, 3) := by decide +kernel
theorem d_TrustDeskModel_fund_220 : decode kY_TrustDeskModel_fund.2.1 220 = .ok (.iload 5, 2) := by decide +kernel
theorem d_TrustDeskModel_fund_222 : decode kY_TrustDeskModel_fund.2.1 222 = .ok (.aload_n 0, 1) := by decide +kernel
theorem d_TrustDeskModel_fund_223 : decode kY_TrustDeskModel_fund.2.1 223 = .ok (.getfield 29, 3) := by decide +kernel
theorem d_TrustDeskModel_fund_226 : decode kY_TrustDeskModel_fund.2.1 226 = .ok (.iload 7, 2) := by decide +kernel
theorem d_TrustDeskModel_fund_228 : decode kY_TrustDeskModel_fund.2.1 228 = .ok (.iaload, 1) := by decide +kernel
theorem d_TrustDeskModel_fund_229 : decode kY_TrustDeskModel_fund.2.1 229 = .ok (.iastore, 1) := by decide +kernel
theorem d_TrustDeskModel_fund_230 : decode kY_TrustDeskModel_fund.2.1 230 = .ok (.aload_n 0, 1) := by decide +kernel
theorem d_TrustDeskModel_fund_231 : decode kY_TrustDeskModel_fund.2.1 231 = .ok (.getfield 85, 3) := by decide +kernel
theorem d_TrustDeskModel_fund_234 : decode kY_TrustDeskModel_fund.2.1 234 = .ok (.iload 5, 2) := by decide +kernel
theorem d_TrustDeskModel_fund_236 : decode kY_TrustDeskModel_fund.2.1 236 = .ok (.aload_n 0, 1) := by decide +kernel
theorem d_TrustDeskModel_fund_237 : decode kY_TrustDeskModel_fund.2.1 237 = .ok (.getfield 32, 3) := by decide +kernel
theorem d_TrustDeskModel_fund_240 : decode kY_TrustDeskModel_fund.2.1 240 = .ok (.iload 7, 2) := by decide +kernel
theorem d_TrustDeskModel_fund_242 : decode kY_TrustDeskModel_fund.2.1 242 = .ok (.iaload, 1) := by decide +kernel
theorem d_TrustDeskModel_fund_243 : decode kY_TrustDeskModel_fund.2.1 243 = .ok (.iastore, 1) := by decide +kernel
theorem d_TrustDeskModel_fund_187 : decode kY_TrustDeskModel_fund.2.1 187 = .ok (.aload_n 0, 1) := by decide +kernel
theorem d_TrustDeskModel_fund_188 : decode kY_TrustDeskModel_fund.2.1 188 = .ok (.getfield 76, 3) := by decide +kernel
theorem d_TrustDeskModel_fund_191 : decode kY_TrustDeskModel_fund.2.1 191 = .ok (.iload 5, 2) := by decide +kernel
theorem d_TrustDeskModel_fund_193 : decode kY_TrustDeskModel_fund.2.1 193 = .ok (.dup2, 1) := by decide +kernel
theorem d_TrustDeskModel_fund_194 : decode kY_TrustDeskModel_fund.2.1 194 = .ok (.iaload, 1) := by decide +kernel
theorem d_TrustDeskModel_fund_195 : decode kY_TrustDeskModel_fund.2.1 195 = .ok (.aload_n 0, 1) := by decide +kernel
theorem d_TrustDeskModel_fund_196 : decode kY_TrustDeskModel_fund.2.1 196 = .ok (.getfield 29, 3) := by decide +kernel
theorem d_TrustDeskModel_fund_199 : decode kY_TrustDeskModel_fund.2.1 199 = .ok (.iload 7, 2) := by decide +kernel
theorem d_TrustDeskModel_fund_201 : decode kY_TrustDeskModel_fund.2.1 201 = .ok (.iaload, 1) := by decide +kernel
theorem d_TrustDeskModel_fund_202 : decode kY_TrustDeskModel_fund.2.1 202 = .ok (.ior, 1) := by decide +kernel
theorem d_TrustDeskModel_fund_203 : decode kY_TrustDeskModel_fund.2.1 203 = .ok (.iastore, 1) := by decide +kernel
theorem d_TrustDeskModel_fund_86 : decode kY_TrustDeskModel_fund.2.1 86 = .ok (.iload 4, 2) := by decide +kernel
theorem d_TrustDeskModel_fund_88 : decode kY_TrustDeskModel_fund.2.1 88 = .ok (.ireturn, 1) := by decide +kernel
theorem d_TrustDeskModel_fund_46 : decode kY_TrustDeskModel_fund.2.1 46 = .ok (.invokevirtual 230, 3) := by decide +kernel
theorem d_TrustDeskModel_fund_49 : decode kY_TrustDeskModel_fund.2.1 49 = .ok (.ifCond .eq 17, 3) := by decide +kernel
theorem d_TrustDeskModel_fund_52 : decode kY_TrustDeskModel_fund.2.1 52 = .ok (.aload_n 0, 1) := by decide +kernel
theorem d_TrustDeskModel_fund_53 : decode kY_TrustDeskModel_fund.2.1 53 = .ok (.getfield 198, 3) := by decide +kernel
theorem d_TrustDeskModel_fund_56 : decode kY_TrustDeskModel_fund.2.1 56 = .ok (.ifCond .eq 10, 3) := by decide +kernel
theorem d_TrustDeskModel_fund_59 : decode kY_TrustDeskModel_fund.2.1 59 = .ok (.aload_n 0, 1) := by decide +kernel
theorem d_TrustDeskModel_fund_60 : decode kY_TrustDeskModel_fund.2.1 60 = .ok (.invokevirtual 425, 3) := by decide +kernel
theorem d_TrustDeskModel_fund_63 : decode kY_TrustDeskModel_fund.2.1 63 = .ok (.goto (-18), 3) := by decide +kernel
