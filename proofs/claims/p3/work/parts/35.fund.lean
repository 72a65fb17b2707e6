abbrev kY_TrustDeskModel_fund : mj_Y := (⟨"TrustDeskModel", "fund", "(II)I"⟩, prog_14_method_55_code, 8, (Option.some Jvm.ClassFile.FieldType.int))
theorem d_TrustDeskModel_fund_0 : decode kY_TrustDeskModel_fund.2.1 0 = .ok (.aload_n 0, 1) := by decide +kernel
theorem d_TrustDeskModel_fund_1 : decode kY_TrustDeskModel_fund.2.1 1 = .ok (.iconst 0, 1) := by decide +kernel
theorem d_TrustDeskModel_fund_2 : decode kY_TrustDeskModel_fund.2.1 2 = .ok (.putfield 1, 3) := by decide +kernel
theorem d_TrustDeskModel_fund_5 : decode kY_TrustDeskModel_fund.2.1 5 = .ok (.iload_n 1, 1) := by decide +kernel
theorem d_TrustDeskModel_fund_6 : decode kY_TrustDeskModel_fund.2.1 6 = .ok (.i2l, 1) := by decide +kernel
theorem d_TrustDeskModel_fund_7 : decode kY_TrustDeskModel_fund.2.1 7 = .ok (.lconst 0, 1) := by decide +kernel
theorem d_TrustDeskModel_fund_8 : decode kY_TrustDeskModel_fund.2.1 8 = .ok (.ldc2_w 421, 3) := by decide +kernel
theorem k_TrustDeskModel_421 : Cond.constantLong "TrustDeskModel" 421 999 ∈ mj_T := (mj_in1 (List.mem_of_getElem? (i := 1793) (by decide +kernel)) rfl)
theorem d_TrustDeskModel_fund_11 : decode kY_TrustDeskModel_fund.2.1 11 = .ok (.invokestatic 169, 3) := by decide +kernel
theorem d_TrustDeskModel_fund_14 : decode kY_TrustDeskModel_fund.2.1 14 = .ok (.ifCond .eq 24, 3) := by decide +kernel
theorem d_TrustDeskModel_fund_38 : decode kY_TrustDeskModel_fund.2.1 38 = .ok (.iconst (-1), 1) := by decide +kernel
theorem d_TrustDeskModel_fund_39 : decode kY_TrustDeskModel_fund.2.1 39 = .ok (.ireturn, 1) := by decide +kernel
theorem d_TrustDeskModel_fund_17 : decode kY_TrustDeskModel_fund.2.1 17 = .ok (.iload_n 2, 1) := by decide +kernel
theorem d_TrustDeskModel_fund_18 : decode kY_TrustDeskModel_fund.2.1 18 = .ok (.i2l, 1) := by decide +kernel
theorem d_TrustDeskModel_fund_19 : decode kY_TrustDeskModel_fund.2.1 19 = .ok (.lconst 0, 1) := by decide +kernel
theorem d_TrustDeskModel_fund_20 : decode kY_TrustDeskModel_fund.2.1 20 = .ok (.ldc2_w 423, 3) := by decide +kernel
theorem k_TrustDeskModel_423 : Cond.constantLong "TrustDeskModel" 423 99999 ∈ mj_T := (mj_in1 (List.mem_of_getElem? (i := 1794) (by decide +kernel)) rfl)
theorem d_TrustDeskModel_fund_23 : decode kY_TrustDeskModel_fund.2.1 23 = .ok (.invokestatic 169, 3) := by decide +kernel
theorem d_TrustDeskModel_fund_26 : decode kY_TrustDeskModel_fund.2.1 26 = .ok (.ifCond .eq 12, 3) := by decide +kernel
theorem d_TrustDeskModel_fund_29 : decode kY_TrustDeskModel_fund.2.1 29 = .ok (.aload_n 0, 1) := by decide +kernel
theorem d_TrustDeskModel_fund_30 : decode kY_TrustDeskModel_fund.2.1 30 = .ok (.getfield 415, 3) := by decide +kernel
theorem f_TrustDeskModel_415_13 : mj_fl "TrustDeskModel" 415 13 32 := ⟨kR_TrustDeskModel, kF_TrustDeskModel, 72, "TrustDeskModel", rfl, kg_13, by decide, (mj_in1 (List.mem_of_getElem? (i := 1418) (by decide +kernel)) rfl), Or.inl rfl⟩
theorem d_TrustDeskModel_fund_33 : decode kY_TrustDeskModel_fund.2.1 33 = .ok (.bipush 12, 2) := by decide +kernel
theorem d_TrustDeskModel_fund_35 : decode kY_TrustDeskModel_fund.2.1 35 = .ok (.if_icmp .ne 5, 3) := by decide +kernel
theorem d_TrustDeskModel_fund_40 : decode kY_TrustDeskModel_fund.2.1 40 = .ok (.aload_n 0, 1) := by decide +kernel
theorem d_TrustDeskModel_fund_41 : decode kY_TrustDeskModel_fund.2.1 41 = .ok (.iconst 0, 1) := by decide +kernel
theorem d_TrustDeskModel_fund_42 : decode kY_TrustDeskModel_fund.2.1 42 = .ok (.invokevirtual 381, 3) := by decide +kernel
theorem d_TrustDeskModel_fund_45 : decode kY_TrustDeskModel_fund.2.1 45 = .ok (.aload_n 0, 1) := by decide +kernel
theorem d_TrustDeskModel_fund_66 : decode kY_TrustDeskModel_fund.2.1 66 = .ok (.bipush 20, 2) := by decide +kernel
theorem d_TrustDeskModel_fund_68 : decode kY_TrustDeskModel_fund.2.1 68 = .ok (.aload_n 0, 1) := by decide +kernel
theorem d_TrustDeskModel_fund_69 : decode kY_TrustDeskModel_fund.2.1 69 = .ok (.getfield 415, 3) := by decide +kernel
theorem d_TrustDeskModel_fund_72 : decode kY_TrustDeskModel_fund.2.1 72 = .ok (.iadd, 1) := by decide +kernel
theorem d_TrustDeskModel_fund_73 : decode kY_TrustDeskModel_fund.2.1 73 = .ok (.istore_n 3, 1) := by decide +kernel
theorem d_TrustDeskModel_fund_74 : decode kY_TrustDeskModel_fund.2.1 74 = .ok (.aload_n 0, 1) := by decide +kernel
theorem d_TrustDeskModel_fund_75 : decode kY_TrustDeskModel_fund.2.1 75 = .ok (.iload_n 3, 1) := by decide +kernel
theorem d_TrustDeskModel_fund_76 : decode kY_TrustDeskModel_fund.2.1 76 = .ok (.invokevirtual 388, 3) := by decide +kernel
theorem d_TrustDeskModel_fund_79 : decode kY_TrustDeskModel_fund.2.1 79 = .ok (.istore 4, 2) := by decide +kernel
theorem d_TrustDeskModel_fund_81 : decode kY_TrustDeskModel_fund.2.1 81 = .ok (.iload 4, 2) := by decide +kernel
theorem d_TrustDeskModel_fund_83 : decode kY_TrustDeskModel_fund.2.1 83 = .ok (.ifCond .ge 6, 3) := by decide +kernel
theorem d_TrustDeskModel_fund_89 : decode kY_TrustDeskModel_fund.2.1 89 = .ok (.aload_n 0, 1) := by decide +kernel
theorem d_TrustDeskModel_fund_90 : decode kY_TrustDeskModel_fund.2.1 90 = .ok (.getfield 415, 3) := by decide +kernel
theorem d_TrustDeskModel_fund_93 : decode kY_TrustDeskModel_fund.2.1 93 = .ok (.istore 5, 2) := by decide +kernel
theorem d_TrustDeskModel_fund_95 : decode kY_TrustDeskModel_fund.2.1 95 = .ok (.aload_n 0, 1) := by decide +kernel
theorem d_TrustDeskModel_fund_96 : decode kY_TrustDeskModel_fund.2.1 96 = .ok (.getfield 66, 3) := by decide +kernel
theorem f_TrustDeskModel_66_13 : mj_fl "TrustDeskModel" 66 13 33 := ⟨kR_TrustDeskModel, kF_TrustDeskModel, 72, "TrustDeskModel", rfl, kg_13, by decide, (mj_in1 (List.mem_of_getElem? (i := 1419) (by decide +kernel)) rfl), Or.inl rfl⟩
theorem d_TrustDeskModel_fund_99 : decode kY_TrustDeskModel_fund.2.1 99 = .ok (.iload 5, 2) := by decide +kernel
theorem d_TrustDeskModel_fund_101 : decode kY_TrustDeskModel_fund.2.1 101 = .ok (.iload_n 1, 1) := by decide +kernel
theorem d_TrustDeskModel_fund_102 : decode kY_TrustDeskModel_fund.2.1 102 = .ok (.iastore, 1) := by decide +kernel
theorem d_TrustDeskModel_fund_103 : decode kY_TrustDeskModel_fund.2.1 103 = .ok (.aload_n 0, 1) := by decide +kernel
theorem d_TrustDeskModel_fund_104 : decode kY_TrustDeskModel_fund.2.1 104 = .ok (.getfield 69, 3) := by decide +kernel
theorem f_TrustDeskModel_69_13 : mj_fl "TrustDeskModel" 69 13 34 := ⟨kR_TrustDeskModel, kF_TrustDeskModel, 72, "TrustDeskModel", rfl, kg_13, by decide, (mj_in1 (List.mem_of_getElem? (i := 1420) (by decide +kernel)) rfl), Or.inl rfl⟩
theorem d_TrustDeskModel_fund_107 : decode kY_TrustDeskModel_fund.2.1 107 = .ok (.iload 5, 2) := by decide +kernel
theorem d_TrustDeskModel_fund_109 : decode kY_TrustDeskModel_fund.2.1 109 = .ok (.iload_n 2, 1) := by decide +kernel
theorem d_TrustDeskModel_fund_110 : decode kY_TrustDeskModel_fund.2.1 110 = .ok (.iastore, 1) := by decide +kernel
theorem d_TrustDeskModel_fund_111 : decode kY_TrustDeskModel_fund.2.1 111 = .ok (.aload_n 0, 1) := by decide +kernel
theorem d_TrustDeskModel_fund_112 : decode kY_TrustDeskModel_fund.2.1 112 = .ok (.getfield 72, 3) := by decide +kernel
theorem f_TrustDeskModel_72_13 : mj_fl "TrustDeskModel" 72 13 35 := ⟨kR_TrustDeskModel, kF_TrustDeskModel, 72, "TrustDeskModel", rfl, kg_13, by decide, (mj_in1 (List.mem_of_getElem? (i := 1421) (by decide +kernel)) rfl), Or.inl rfl⟩
theorem d_TrustDeskModel_fund_115 : decode kY_TrustDeskModel_fund.2.1 115 = .ok (.iload 5, 2) := by decide +kernel
theorem d_TrustDeskModel_fund_117 : decode kY_TrustDeskModel_fund.2.1 117 = .ok (.lconst 0, 1) := by decide +kernel
theorem d_TrustDeskModel_fund_118 : decode kY_TrustDeskModel_fund.2.1 118 = .ok (.lastore, 1) := by decide +kernel
theorem d_TrustDeskModel_fund_119 : decode kY_TrustDeskModel_fund.2.1 119 = .ok (.aload_n 0, 1) := by decide +kernel
theorem d_TrustDeskModel_fund_120 : decode kY_TrustDeskModel_fund.2.1 120 = .ok (.getfield 76, 3) := by decide +kernel
theorem f_TrustDeskModel_76_13 : mj_fl "TrustDeskModel" 76 13 36 := ⟨kR_TrustDeskModel, kF_TrustDeskModel, 72, "TrustDeskModel", rfl, kg_13, by decide, (mj_in1 (List.mem_of_getElem? (i := 1422) (by decide +kernel)) rfl), Or.inl rfl⟩
theorem d_TrustDeskModel_fund_123 : decode kY_TrustDeskModel_fund.2.1 123 = .ok (.iload 5, 2) := by decide +kernel
theorem d_TrustDeskModel_fund_125 : decode kY_TrustDeskModel_fund.2.1 125 = .ok (.iconst 0, 1) := by decide +kernel
theorem d_TrustDeskModel_fund_126 : decode kY_TrustDeskModel_fund.2.1 126 = .ok (.iastore, 1) := by decide +kernel
theorem d_TrustDeskModel_fund_127 : decode kY_TrustDeskModel_fund.2.1 127 = .ok (.aload_n 0, 1) := by decide +kernel
theorem d_TrustDeskModel_fund_128 : decode kY_TrustDeskModel_fund.2.1 128 = .ok (.getfield 79, 3) := by decide +kernel
theorem f_TrustDeskModel_79_13 : mj_fl "TrustDeskModel" 79 13 37 := ⟨kR_TrustDeskModel, kF_TrustDeskModel, 72, "TrustDeskModel", rfl, kg_13, by decide, (mj_in1 (List.mem_of_getElem? (i := 1423) (by decide +kernel)) rfl), Or.inl rfl⟩
theorem d_TrustDeskModel_fund_131 : decode kY_TrustDeskModel_fund.2.1 131 = .ok (.iload 5, 2) := by decide +kernel
theorem d_TrustDeskModel_fund_133 : decode kY_TrustDeskModel_fund.2.1 133 = .ok (.iconst (-1), 1) := by decide +kernel
theorem d_TrustDeskModel_fund_134 : decode kY_TrustDeskModel_fund.2.1 134 = .ok (.iastore, 1) := by decide +kernel
theorem d_TrustDeskModel_fund_135 : decode kY_TrustDeskModel_fund.2.1 135 = .ok (.aload_n 0, 1) := by decide +kernel
theorem d_TrustDeskModel_fund_136 : decode kY_TrustDeskModel_fund.2.1 136 = .ok (.getfield 82, 3) := by decide +kernel
theorem f_TrustDeskModel_82_13 : mj_fl "TrustDeskModel" 82 13 38 := ⟨kR_TrustDeskModel, kF_TrustDeskModel, 72, "TrustDeskModel", rfl, kg_13, by decide, (mj_in1 (List.mem_of_getElem? (i := 1424) (by decide +kernel)) rfl), Or.inl rfl⟩
theorem d_TrustDeskModel_fund_139 : decode kY_TrustDeskModel_fund.2.1 139 = .ok (.iload 5, 2) := by decide +kernel
theorem d_TrustDeskModel_fund_141 : decode kY_TrustDeskModel_fund.2.1 141 = .ok (.bipush 7, 2) := by decide +kernel
theorem d_TrustDeskModel_fund_143 : decode kY_TrustDeskModel_fund.2.1 143 = .ok (.iastore, 1) := by decide +kernel
theorem d_TrustDeskModel_fund_144 : decode kY_TrustDeskModel_fund.2.1 144 = .ok (.aload_n 0, 1) := by decide +kernel
theorem d_TrustDeskModel_fund_145 : decode kY_TrustDeskModel_fund.2.1 145 = .ok (.getfield 85, 3) := by decide +kernel
theorem f_TrustDeskModel_85_13 : mj_fl "TrustDeskModel" 85 13 39 := ⟨kR_TrustDeskModel, kF_TrustDeskModel, 72, "TrustDeskModel", rfl, kg_13, by decide, (mj_in1 (List.mem_of_getElem? (i := 1425) (by decide +kernel)) rfl), Or.inl rfl⟩
theorem d_TrustDeskModel_fund_148 : decode kY_TrustDeskModel_fund.2.1 148 = .ok (.iload 5, 2) := by decide +kernel
theorem d_TrustDeskModel_fund_150 : decode kY_TrustDeskModel_fund.2.1 150 = .ok (.iconst 1, 1) := by decide +kernel
theorem d_TrustDeskModel_fund_151 : decode kY_TrustDeskModel_fund.2.1 151 = .ok (.iastore, 1) := by decide +kernel
theorem d_TrustDeskModel_fund_152 : decode kY_TrustDeskModel_fund.2.1 152 = .ok (.iconst 0, 1) := by decide +kernel
theorem d_TrustDeskModel_fund_153 : decode kY_TrustDeskModel_fund.2.1 153 = .ok (.istore 6, 2) := by decide +kernel
theorem d_TrustDeskModel_fund_155 : decode kY_TrustDeskModel_fund.2.1 155 = .ok (.iload 6, 2) := by decide +kernel
theorem d_TrustDeskModel_fund_157 : decode kY_TrustDeskModel_fund.2.1 157 = .ok (.aload_n 0, 1) := by decide +kernel
theorem d_TrustDeskModel_fund_158 : decode kY_TrustDeskModel_fund.2.1 158 = .ok (.getfield 23, 3) := by decide +kernel
theorem d_TrustDeskModel_fund_161 : decode kY_TrustDeskModel_fund.2.1 161 = .ok (.iload_n 3, 1) := by decide +kernel
theorem d_TrustDeskModel_fund_162 : decode kY_TrustDeskModel_fund.2.1 162 = .ok (.iaload, 1) := by decide +kernel
theorem d_TrustDeskModel_fund_163 : decode kY_TrustDeskModel_fund.2.1 163 = .ok (.if_icmp .ge 111, 3) := by decide +kernel
theorem d_TrustDeskModel_fund_274 : decode kY_TrustDeskModel_fund.2.1 274 = .ok (.aload_n 0, 1) := by decide +kernel
theorem d_TrustDeskModel_fund_275 : decode kY_TrustDeskModel_fund.2.1 275 = .ok (.getfield 92, 3) := by decide +kernel
theorem f_TrustDeskModel_92_13 : mj_fl "TrustDeskModel" 92 13 41 := ⟨kR_TrustDeskModel, kF_TrustDeskModel, 72, "TrustDeskModel", rfl, kg_13, by decide, (mj_in1 (List.mem_of_getElem? (i := 1427) (by decide +kernel)) rfl), Or.inl rfl⟩
theorem d_TrustDeskModel_fund_278 : decode kY_TrustDeskModel_fund.2.1 278 = .ok (.bipush 12, 2) := by decide +kernel
theorem d_TrustDeskModel_fund_280 : decode kY_TrustDeskModel_fund.2.1 280 = .ok (.iload 5, 2) := by decide +kernel
theorem d_TrustDeskModel_fund_282 : decode kY_TrustDeskModel_fund.2.1 282 = .ok (.imul, 1) := by decide +kernel
theorem d_TrustDeskModel_fund_283 : decode kY_TrustDeskModel_fund.2.1 283 = .ok (.iload 5, 2) := by decide +kernel
theorem d_TrustDeskModel_fund_285 : decode kY_TrustDeskModel_fund.2.1 285 = .ok (.iadd, 1) := by decide +kernel
theorem d_TrustDeskModel_fund_286 : decode kY_TrustDeskModel_fund.2.1 286 = .ok (.ldc_w 432, 3) := by decide +kernel
theorem k_TrustDeskModel_432 : Cond.constant "TrustDeskModel" 432 1000000 ∈ mj_T := (mj_in1 (List.mem_of_getElem? (i := 1820) (by decide +kernel)) rfl)
theorem d_TrustDeskModel_fund_289 : decode kY_TrustDeskModel_fund.2.1 289 = .ok (.iastore, 1) := by decide +kernel
theorem d_TrustDeskModel_fund_290 : decode kY_TrustDeskModel_fund.2.1 290 = .ok (.aload_n 0, 1) := by decide +kernel
theorem d_TrustDeskModel_fund_291 : decode kY_TrustDeskModel_fund.2.1 291 = .ok (.dup, 1) := by decide +kernel
theorem d_TrustDeskModel_fund_292 : decode kY_TrustDeskModel_fund.2.1 292 = .ok (.getfield 415, 3) := by decide +kernel
theorem d_TrustDeskModel_fund_295 : decode kY_TrustDeskModel_fund.2.1 295 = .ok (.iconst 1, 1) := by decide +kernel
theorem d_TrustDeskModel_fund_296 : decode kY_TrustDeskModel_fund.2.1 296 = .ok (.iadd, 1) := by decide +kernel
theorem d_TrustDeskModel_fund_297 : decode kY_TrustDeskModel_fund.2.1 297 = .ok (.putfield 415, 3) := by decide +kernel
theorem p_TrustDeskModel_415_13 : mj_fp "TrustDeskModel" 415 13 32 (kt_TrustDeskModel 32) false := ⟨kR_TrustDeskModel, kF_TrustDeskModel, 72, "TrustDeskModel", kt_TrustDeskModel, rfl, kg_13, by decide, (mj_in1 (List.mem_of_getElem? (i := 1418) (by decide +kernel)) rfl), Or.inl rfl, kto_TrustDeskModel, kn_TrustDeskModel, rfl, rfl, fun h => by cases h⟩
theorem d_TrustDeskModel_fund_300 : decode kY_TrustDeskModel_fund.2.1 300 = .ok (.iload 5, 2) := by decide +kernel
theorem d_TrustDeskModel_fund_302 : decode kY_TrustDeskModel_fund.2.1 302 = .ok (.ireturn, 1) := by decide +kernel
theorem d_TrustDeskModel_fund_166 : decode kY_TrustDeskModel_fund.2.1 166 = .ok (.bipush 20, 2) := by decide +kernel
theorem d_TrustDeskModel_fund_168 : decode kY_TrustDeskModel_fund.2.1 168 = .ok (.iload_n 3, 1) := by decide +kernel
theorem d_TrustDeskModel_fund_169 : decode kY_TrustDeskModel_fund.2.1 169 = .ok (.imul, 1) := by decide +kernel
theorem d_TrustDeskModel_fund_170 : decode kY_TrustDeskModel_fund.2.1 170 = .ok (.iload 6, 2) := by decide +kernel
theorem d_TrustDeskModel_fund_172 : decode kY_TrustDeskModel_fund.2.1 172 = .ok (.iadd, 1) := by decide +kernel
theorem d_TrustDeskModel_fund_173 : decode kY_TrustDeskModel_fund.2.1 173 = .ok (.istore 7, 2) := by decide +kernel
theorem d_TrustDeskModel_fund_175 : decode kY_TrustDeskModel_fund.2.1 175 = .ok (.aload_n 0, 1) := by decide +kernel
theorem d_TrustDeskModel_fund_176 : decode kY_TrustDeskModel_fund.2.1 176 = .ok (.getfield 26, 3) := by decide +kernel
theorem d_TrustDeskModel_fund_179 : decode kY_TrustDeskModel_fund.2.1 179 = .ok (.iload 7, 2) := by decide +kernel
theorem d_TrustDeskModel_fund_181 : decode kY_TrustDeskModel_fund.2.1 181 = .ok (.iaload, 1) := by decide +kernel
theorem d_TrustDeskModel_fund_182 : decode kY_TrustDeskModel_fund.2.1 182 = .ok (.bipush 7, 2) := by decide +kernel
theorem d_TrustDeskModel_fund_184 : decode kY_TrustDeskModel_fund.2.1 184 = .ok (.if_icmp .ne 20, 3) := by decide +kernel
theorem d_TrustDeskModel_fund_204 : decode kY_TrustDeskModel_fund.2.1 204 = .ok (.aload_n 0, 1) := by decide +kernel
theorem d_TrustDeskModel_fund_205 : decode kY_TrustDeskModel_fund.2.1 205 = .ok (.getfield 26, 3) := by decide +kernel
theorem d_TrustDeskModel_fund_208 : decode kY_TrustDeskModel_fund.2.1 208 = .ok (.iload 7, 2) := by decide +kernel
theorem d_TrustDeskModel_fund_210 : decode kY_TrustDeskModel_fund.2.1 210 = .ok (.iaload, 1) := by decide +kernel
theorem d_TrustDeskModel_fund_211 : decode kY_TrustDeskModel_fund.2.1 211 = .ok (.bipush 9, 2) := by decide +kernel
theorem d_TrustDeskModel_fund_213 : decode kY_TrustDeskModel_fund.2.1 213 = .ok (.if_icmp .ne 31, 3) := by decide +kernel
theorem d_TrustDeskModel_fund_244 : decode kY_TrustDeskModel_fund.2.1 244 = .ok (.aload_n 0, 1) := by decide +kernel
theorem d_TrustDeskModel_fund_245 : decode kY_TrustDeskModel_fund.2.1 245 = .ok (.getfield 26, 3) := by decide +kernel
theorem d_TrustDeskModel_fund_248 : decode kY_TrustDeskModel_fund.2.1 248 = .ok (.iload 7, 2) := by decide +kernel
theorem d_TrustDeskModel_fund_250 : decode kY_TrustDeskModel_fund.2.1 250 = .ok (.iaload, 1) := by decide +kernel
theorem d_TrustDeskModel_fund_251 : decode kY_TrustDeskModel_fund.2.1 251 = .ok (.bipush 8, 2) := by decide +kernel
theorem d_TrustDeskModel_fund_253 : decode kY_TrustDeskModel_fund.2.1 253 = .ok (.if_icmp .ne 15, 3) := by decide +kernel
theorem d_TrustDeskModel_fund_268 : decode kY_TrustDeskModel_fund.2.1 268 = .ok (.iinc 6 1, 3) := by decide +kernel
theorem d_TrustDeskModel_fund_271 : decode kY_TrustDeskModel_fund.2.1 271 = .ok (.goto (-116), 3) := by decide +kernel
theorem d_TrustDeskModel_fund_256 : decode kY_TrustDeskModel_fund.2.1 256 = .ok (.aload_n 0, 1) := by decide +kernel
theorem d_TrustDeskModel_fund_257 : decode kY_TrustDeskModel_fund.2.1 257 = .ok (.iload 5, 2) := by decide +kernel
theorem d_TrustDeskModel_fund_259 : decode kY_TrustDeskModel_fund.2.1 259 = .ok (.iload_n 3, 1) := by decide +kernel
theorem d_TrustDeskModel_fund_260 : decode kY_TrustDeskModel_fund.2.1 260 = .ok (.iload 7, 2) := by decide +kernel
theorem d_TrustDeskModel_fund_262 : decode kY_TrustDeskModel_fund.2.1 262 = .ok (.iconst 0, 1) := by decide +kernel
theorem d_TrustDeskModel_fund_263 : decode kY_TrustDeskModel_fund.2.1 263 = .ok (.iconst 0, 1) := by decide +kernel
theorem d_TrustDeskModel_fund_264 : decode kY_TrustDeskModel_fund.2.1 264 = .ok (.iconst (-1), 1) := by decide +kernel
theorem d_TrustDeskModel_fund_265 : decode kY_TrustDeskModel_fund.2.1 265 = .ok (.invokevirtual 428, 3) := by decide +kernel
theorem lV_TrustDeskModel_428 : mj_lV "TrustDeskModel" 428 kY_TrustDeskModel_addEnd 6 := ⟨⟨(mj_in1 (List.mem_of_getElem? (i := 1816) (by decide +kernel)) rfl), (mj_in1 (List.mem_of_getElem? (i := 10) (by decide +kernel)) rfl), (mj_in1 (List.mem_of_getElem? (i := 1819) (by decide +kernel)) rfl), by decide, rfl, by decide⟩, (mj_in1 (List.mem_of_getElem? (i := 1818) (by decide +kernel)) rfl), (mj_in (List.mem_append_left _ (List.mem_of_getElem? (i := 110) (by decide +kernel))) rfl)⟩
theorem d_TrustDeskModel_fund_216 : decode kY_TrustDeskModel_fund.2.1 216 = .ok (.aload_n 0, 1) := by decide +kernel
theorem d_TrustDeskModel_fund_217 : decode kY_TrustDeskModel_fund.2.1 217 = .ok (.getfield 82, 3) := by decide +kernel
theorem d_TrustDeskModel_fund_220 : decode kY_TrustDeskModel_fund.2.1 220 = .ok (.iload 5, 2) := by decide +kernel
theorem d_TrustDeskModel_fund_222 : decode kY_TrustDeskModel_fund.2.1 222 = .ok (.aload_n 0, 1) := by decide +kernel
theorem d_TrustDeskModel_fund_223 : decode kY_TrustDeskModel_fund.2.1 223 = .ok (.getfield 29, 3) := by decide +kernel
theorem d_TrustDeskModel_fund_226 : decode kY_TrustDeskModel_fund.2.1 226 = .ok (.iload 7, 2) := by decide +kernel
theorem d_TrustDeskModel_fund_228 : decode kY_TrustDeskModel_fund.2.1 228 = .ok (.iaload, 1) := by decide +kernel
theorem d_TrustDeskModel_fund_229 : decode kY_TrustDeskModel_fund.2.1 229 = .ok (.iastore, 1) := by decide +kernel
theorem d_TrustDeskModel_fund_230 : decode kY_TrustDeskModel_fund.2.1 230 = .ok (.aload_n 0, 1) := by decide +kernel
theorem d_TrustDeskModel_fund_231 : decode kY_TrustDeskModel_fund.2.1 231 = .ok (.getfield 85, 3) := by decide +kernel
theorem d_TrustDeskModel_fund_234 : decode kY_TrustDeskModel_fund.2.1 234 = .ok (.iload 5, 2) := by decide +kernel
theorem d_TrustDeskModel_fund_236 : decode kY_TrustDeskModel_fund.2.1 236 = .ok (.aload_n 0, 1) := by decide +kernel
theorem d_TrustDeskModel_fund_237 : decode kY_TrustDeskModel_fund.2.1 237 = .ok (.getfield 32, 3) := by decide +kernel
theorem d_TrustDeskModel_fund_240 : decode kY_TrustDeskModel_fund.2.1 240 = .ok (.iload 7, 2) := by decide +kernel
theorem d_TrustDeskModel_fund_242 : decode kY_TrustDeskModel_fund.2.1 242 = .ok (.iaload, 1) := by decide +kernel
theorem d_TrustDeskModel_fund_243 : decode kY_TrustDeskModel_fund.2.1 243 = .ok (.iastore, 1) := by decide +kernel
theorem d_TrustDeskModel_fund_187 : decode kY_TrustDeskModel_fund.2.1 187 = .ok (.aload_n 0, 1) := by decide +kernel
theorem d_TrustDeskModel_fund_188 : decode kY_TrustDeskModel_fund.2.1 188 = .ok (.getfield 76, 3) := by decide +kernel
theorem d_TrustDeskModel_fund_191 : decode kY_TrustDeskModel_fund.2.1 191 = .ok (.iload 5, 2) := by decide +kernel
theorem d_TrustDeskModel_fund_193 : decode kY_TrustDeskModel_fund.2.1 193 = .ok (.dup2, 1) := by decide +kernel
theorem d_TrustDeskModel_fund_194 : decode kY_TrustDeskModel_fund.2.1 194 = .ok (.iaload, 1) := by decide +kernel
theorem d_TrustDeskModel_fund_195 : decode kY_TrustDeskModel_fund.2.1 195 = .ok (.aload_n 0, 1) := by decide +kernel
theorem d_TrustDeskModel_fund_196 : decode kY_TrustDeskModel_fund.2.1 196 = .ok (.getfield 29, 3) := by decide +kernel
theorem d_TrustDeskModel_fund_199 : decode kY_TrustDeskModel_fund.2.1 199 = .ok (.iload 7, 2) := by decide +kernel
theorem d_TrustDeskModel_fund_201 : decode kY_TrustDeskModel_fund.2.1 201 = .ok (.iaload, 1) := by decide +kernel
theorem d_TrustDeskModel_fund_202 : decode kY_TrustDeskModel_fund.2.1 202 = .ok (.ior, 1) := by decide +kernel
theorem d_TrustDeskModel_fund_203 : decode kY_TrustDeskModel_fund.2.1 203 = .ok (.iastore, 1) := by decide +kernel
theorem d_TrustDeskModel_fund_86 : decode kY_TrustDeskModel_fund.2.1 86 = .ok (.iload 4, 2) := by decide +kernel
theorem d_TrustDeskModel_fund_88 : decode kY_TrustDeskModel_fund.2.1 88 = .ok (.ireturn, 1) := by decide +kernel
theorem d_TrustDeskModel_fund_46 : decode kY_TrustDeskModel_fund.2.1 46 = .ok (.invokevirtual 230, 3) := by decide +kernel
theorem d_TrustDeskModel_fund_49 : decode kY_TrustDeskModel_fund.2.1 49 = .ok (.ifCond .eq 17, 3) := by decide +kernel
theorem d_TrustDeskModel_fund_52 : decode kY_TrustDeskModel_fund.2.1 52 = .ok (.aload_n 0, 1) := by decide +kernel
theorem d_TrustDeskModel_fund_53 : decode kY_TrustDeskModel_fund.2.1 53 = .ok (.getfield 198, 3) := by decide +kernel
theorem d_TrustDeskModel_fund_56 : decode kY_TrustDeskModel_fund.2.1 56 = .ok (.ifCond .eq 10, 3) := by decide +kernel
theorem d_TrustDeskModel_fund_59 : decode kY_TrustDeskModel_fund.2.1 59 = .ok (.aload_n 0, 1) := by decide +kernel
theorem d_TrustDeskModel_fund_60 : decode kY_TrustDeskModel_fund.2.1 60 = .ok (.invokevirtual 425, 3) := by decide +kernel
theorem d_TrustDeskModel_fund_63 : decode kY_TrustDeskModel_fund.2.1 63 = .ok (.goto (-18), 3) := by decide +kernel
def w_TrustDeskModel_fund_x : List Nat := [1300, 1314, 1315, 1316, 1317, 1318, 1319, 1320, 1321, 1322, 1323, 1324, 1332, 20004, 20005, 20006, 20007, 20008, 20009, 20010, 20011, 20012, 20025, 20026, 20033, 20034, 20035, 20036, 20037, 20038, 20039, 20041, 20043, 20044, 20045, 20046, 20047, 20048]
set_option maxHeartbeats 100000000 in theorem tc_TrustDeskModel_fund_x {g : mj_G} {l : Launch} {d : Nat} {T0 : tm_H} {M0 : mj_M} {n0 x9 : Nat} {o0 : Nat} {x1 : Int32} {x2 : Int32} (h_o0 : T0 o0 = some (0, 13, 0)) (yR : rI M0 o0) (yC : rC M0 o0 44) (yP : rP M0 o0) (yB : rB M0 o0 12) (I0 : tm_I tm_FT (tm_in w_TrustDeskModel_fund_x) x9 T0 M0 n0 T0 M0 n0) : mj_Met g l kY_TrustDeskModel_fund (d + 27) [.ref o0, .int x1, .int x2] M0 n0 0 0 (tm_Q tm_FT (tm_in w_TrustDeskModel_fund_x) x9 T0 M0 n0 (fun r _ M => ∃ v : Int32, r = some (.int v) ∧ rI M o0 ∧ (rC M o0 44) ∧ (rP M o0) ∧ (rB M o0 12) ∧ (rv M0 o0 32 ≤ rv M o0 32))) := by
  refine mj_enter (by decide) (Nat.le_of_ble_eq_true rfl) ?_
  have K1 : rC M0 o0 44 := yC
  have K2 : rP M0 o0 := yP
  have K3 : rB M0 o0 12 := yB
  refine mv_aload_n d_TrustDeskModel_fund_0 rfl rfl ?_
  refine mv_iconst (v := 0) d_TrustDeskModel_fund_1 (by decide) ?_
  refine tr_putR (k := 0) I0 yR h_o0 rfl ⟨_, rfl⟩ (fun _ h => by cases h) rfl (fun lo hi h => by cases h) (Or.inl (by decide)) d_TrustDeskModel_fund_2 p_TrustDeskModel_1_13 rfl rfl (fun M4 I5 q6 K7 R8 A9 V10 => ?_)
  have z11 := (V10 15 (by decide))
  have z12 := (V10 16 (by decide))
  have z13 := (V10 17 (by decide))
  have z14 := (V10 19 (by decide))
  have z15 := (V10 22 (by decide))
  have z16 := (V10 24 (by decide))
  have z17 := (V10 27 (by decide))
  have z18 := (V10 32 (by decide))
  have z19 := (V10 49 (by decide))
  have z20 := (A9 5 (by decide) 44)
  have z21 := (A9 6 (by decide) 44)
  have K22 : rC M4 o0 44 := K1.same (sA_f A9 (by decide)) (sF_f V10 (by decide))
  have K23 : rP M4 o0 := K2.same (sA_f A9 (by decide)) (sF_f V10 (by decide))
  have K24 : rB M4 o0 12 := K3.same (sA_f A9 (by decide)) (sF_f V10 (by decide))
  refine mv_iload_n d_TrustDeskModel_fund_5 rfl rfl ?_
  refine mv_i2l (v := x1.toInt64) d_TrustDeskModel_fund_6 rfl ?_
  refine mv_lconst (v := 0) d_TrustDeskModel_fund_7 (by decide) ?_
  refine mv_ldc2 d_TrustDeskModel_fund_8 k_TrustDeskModel_421 ?_
  refine mv_callS (kc1 := 0) (ks1 := 0) (kc' := 0) (ks' := 0) (As := [.long x1.toInt64, .long 0, .long 999]) (st9 := [.long 999, .long 0, .long x1.toInt64]) d_TrustDeskModel_fund_11 lS_TrustDeskModel_169 (mj_enter (by decide) (Nat.le_of_ble_eq_true rfl) ?_) rfl (Nat.le_of_ble_eq_true rfl) (Nat.le_of_ble_eq_true rfl) (Nat.le_of_ble_eq_true rfl) (hst := rfl) (fun _ _ _ h => h)
  refine mv_lload_n d_TrustDeskModel_within_0 rfl rfl ?_
  refine mv_lload_n d_TrustDeskModel_within_1 rfl rfl ?_
  refine mv_lltZ (tgt := 17) (a := x1.toInt) (b := 0) d_TrustDeskModel_within_2 d_TrustDeskModel_within_3 (by decide) (mz_wide _) (by decide) (fun b25 => ?_) (fun b25 => ?_)
  · refine mv_iconst (v := 0) d_TrustDeskModel_within_17 (by decide) ?_
    refine mv_iret d_TrustDeskModel_within_18 rfl (by decide) ?_
    refine mv_if_eq_t (tgt := 38) d_TrustDeskModel_fund_14 (by decide) (by decide) ?_
    refine mv_iconst (v := (-1)) d_TrustDeskModel_fund_38 (by decide) ?_
    exact mv_iret d_TrustDeskModel_fund_39 rfl (by first | rfl | decide) ⟨_, I5, _, rfl, R8, K22, K23, K24, (by have := R8.1 15 _ _ rfl; have := R8.1 16 _ _ rfl; have := R8.1 19 _ _ rfl; omega)⟩
  · refine mv_lload_n d_TrustDeskModel_within_6 rfl rfl ?_
    refine mv_lload d_TrustDeskModel_within_7 rfl ?_
    refine mv_lgtZ (tgt := 17) (a := x1.toInt) (b := 999) d_TrustDeskModel_within_9 d_TrustDeskModel_within_10 (by decide) (mz_wide _) (by decide) (fun b26 => ?_) (fun b26 => ?_)
    · refine mv_iconst (v := 0) d_TrustDeskModel_within_17 (by decide) ?_
      refine mv_iret d_TrustDeskModel_within_18 rfl (by decide) ?_
      refine mv_if_eq_t (tgt := 38) d_TrustDeskModel_fund_14 (by decide) (by decide) ?_
      refine mv_iconst (v := (-1)) d_TrustDeskModel_fund_38 (by decide) ?_
      exact mv_iret d_TrustDeskModel_fund_39 rfl (by first | rfl | decide) ⟨_, I5, _, rfl, R8, K22, K23, K24, (by have := R8.1 15 _ _ rfl; have := R8.1 16 _ _ rfl; have := R8.1 19 _ _ rfl; omega)⟩
    · refine mv_iconst (v := 1) d_TrustDeskModel_within_13 (by decide) ?_
      refine mv_goto (tgt := 18) d_TrustDeskModel_within_14 (by decide) ?_
      refine mv_iret d_TrustDeskModel_within_18 rfl (by decide) ?_
      refine mv_if_eq_f (tgt := 38) d_TrustDeskModel_fund_14 (by decide) (by decide) ?_
      refine mv_iload_n d_TrustDeskModel_fund_17 rfl rfl ?_
      refine mv_i2l (v := x2.toInt64) d_TrustDeskModel_fund_18 rfl ?_
      refine mv_lconst (v := 0) d_TrustDeskModel_fund_19 (by decide) ?_
      refine mv_ldc2 d_TrustDeskModel_fund_20 k_TrustDeskModel_423 ?_
      refine mv_callS (kc1 := 0) (ks1 := 0) (kc' := 0) (ks' := 0) (As := [.long x2.toInt64, .long 0, .long 99999]) (st9 := [.long 99999, .long 0, .long x2.toInt64]) d_TrustDeskModel_fund_23 lS_TrustDeskModel_169 (mj_enter (by decide) (Nat.le_of_ble_eq_true rfl) ?_) rfl (Nat.le_of_ble_eq_true rfl) (Nat.le_of_ble_eq_true rfl) (Nat.le_of_ble_eq_true rfl) (hst := rfl) (fun _ _ _ h => h)
      refine mv_lload_n d_TrustDeskModel_within_0 rfl rfl ?_
      refine mv_lload_n d_TrustDeskModel_within_1 rfl rfl ?_
      refine mv_lltZ (tgt := 17) (a := x2.toInt) (b := 0) d_TrustDeskModel_within_2 d_TrustDeskModel_within_3 (by decide) (mz_wide _) (by decide) (fun b27 => ?_) (fun b27 => ?_)
      · refine mv_iconst (v := 0) d_TrustDeskModel_within_17 (by decide) ?_
        refine mv_iret d_TrustDeskModel_within_18 rfl (by decide) ?_
        refine mv_if_eq_t (tgt := 38) d_TrustDeskModel_fund_26 (by decide) (by decide) ?_
        refine mv_iconst (v := (-1)) d_TrustDeskModel_fund_38 (by decide) ?_
        exact mv_iret d_TrustDeskModel_fund_39 rfl (by first | rfl | decide) ⟨_, I5, _, rfl, R8, K22, K23, K24, (by have := R8.1 15 _ _ rfl; have := R8.1 16 _ _ rfl; have := R8.1 19 _ _ rfl; omega)⟩
      · refine mv_lload_n d_TrustDeskModel_within_6 rfl rfl ?_
        refine mv_lload d_TrustDeskModel_within_7 rfl ?_
        refine mv_lgtZ (tgt := 17) (a := x2.toInt) (b := 99999) d_TrustDeskModel_within_9 d_TrustDeskModel_within_10 (by decide) (mz_wide _) (by decide) (fun b28 => ?_) (fun b28 => ?_)
        · refine mv_iconst (v := 0) d_TrustDeskModel_within_17 (by decide) ?_
          refine mv_iret d_TrustDeskModel_within_18 rfl (by decide) ?_
          refine mv_if_eq_t (tgt := 38) d_TrustDeskModel_fund_26 (by decide) (by decide) ?_
          refine mv_iconst (v := (-1)) d_TrustDeskModel_fund_38 (by decide) ?_
          exact mv_iret d_TrustDeskModel_fund_39 rfl (by first | rfl | decide) ⟨_, I5, _, rfl, R8, K22, K23, K24, (by have := R8.1 15 _ _ rfl; have := R8.1 16 _ _ rfl; have := R8.1 19 _ _ rfl; omega)⟩
        · refine mv_iconst (v := 1) d_TrustDeskModel_within_13 (by decide) ?_
          refine mv_goto (tgt := 18) d_TrustDeskModel_within_14 (by decide) ?_
          refine mv_iret d_TrustDeskModel_within_18 rfl (by decide) ?_
          refine mv_if_eq_f (tgt := 38) d_TrustDeskModel_fund_26 (by decide) (by decide) ?_
          refine mv_aload_n d_TrustDeskModel_fund_29 rfl rfl ?_
          obtain ⟨v30, q29⟩ := tm_atI I5 h_o0 (k := 32) rfl
          refine tr_getK q29 d_TrustDeskModel_fund_30 f_TrustDeskModel_415_13 ?_
          have := R8.f (k := 32) q29 rfl
          have := (tm_rv q29).symm.trans z18
          have := tm_rv q29
          refine mv_bipush (v := 12) d_TrustDeskModel_fund_33 (by decide) ?_
          have := mz_hi v30
          refine mv_icmp_neZ (tgt := 40) (a := v30.toInt) (b := 12) d_TrustDeskModel_fund_35 (by decide) rfl (by decide) (fun b31 => ?_) (fun b31 => ?_)
          · refine mv_aload_n d_TrustDeskModel_fund_40 rfl rfl ?_
            refine mv_iconst (v := 0) d_TrustDeskModel_fund_41 (by decide) ?_
            obtain ⟨_, b38, -⟩ := I5.1 _ _ h_o0
            have : (0 : Int32).toInt = 0 := by decide
            refine mv_callV (kc' := 0) (ks' := 0) (As := [.int 0]) (st9 := [.int 0, .ref o0]) d_TrustDeskModel_fund_42 lV_TrustDeskModel_381 b38 rfl (tc_TrustDeskModel_starts_x (d := (d + 24)) (x9 := x9) (o0 := o0) (x1 := 0) h_o0 (by decide) R8 I5.start) rfl (Nat.le_of_ble_eq_true rfl) (Nat.le_of_ble_eq_true rfl) (Nat.le_of_ble_eq_true rfl) (hst := rfl) (fun b32r M33 n34 b32 => ?_)
            obtain ⟨T35, J36, rfl, R39, f40, f41, f42, f43, f44, f45⟩ := b32
            have I37 := I5.call J36 (tm_sub (by decide)) (Or.inl rfl)
            have t46 := J36.up h_o0
            have z47 := (rv_c I5 J36 (I5.up h_o0) (k := 27) rfl).trans z17
            have z48 := (rv_c I5 J36 (I5.up h_o0) (k := 32) rfl).trans z18
            have z49 := (rv_c I5 J36 (I5.up h_o0) (k := 49) rfl).trans z19
            have K50 : rC M33 o0 44 := K22.same (sA_c I5 J36 (I5.up h_o0) (by decide +kernel)) (sF_c I5 J36 (I5.up h_o0) (by decide +kernel))
            have K51 : rP M33 o0 := K23.same (sA_c I5 J36 (I5.up h_o0) (by decide +kernel)) (sF_c I5 J36 (I5.up h_o0) (by decide +kernel))
            have K52 : rB M33 o0 12 := K24.same (sA_c I5 J36 (I5.up h_o0) (by decide +kernel)) (sF_c I5 J36 (I5.up h_o0) (by decide +kernel))
            have K53 : rW M33 o0 := rW.start f40 R39 f44 f45 f43
            clear z17 z18 z19
            have q54 := J36.keep h_o0 (by decide) q6
            have q55 := J36.keep h_o0 (by decide) q29
            have C66_56 : ∀ (T_56 : tm_H) (M_56 : mj_M) (n_56 : Nat), tm_I tm_FT (tm_in w_TrustDeskModel_fund_x) x9 T0 M0 n0 T_56 M_56 n_56 → T_56 o0 = some (0, 13, 0) → (rv M_56 o0 19 = 0 → rv M_56 o0 22 = 0) → rv M_56 o0 27 = rv M0 o0 27 → rv M_56 o0 32 = rv M0 o0 32 → rv M_56 o0 49 = rv M0 o0 49 → ra M_56 o0 6 44 ≤ 12 → (rI M_56 o0) → (rC M_56 o0 44) → (rP M_56 o0) → (rB M_56 o0 12) → (rW M_56 o0) → mj_V g l kY_TrustDeskModel_fund (d + 27) 66 [(0, .ref o0), (1, .int x1), (2, .int x2)] [] M_56 n_56 0 0 (tm_Q tm_FT (tm_in w_TrustDeskModel_fund_x) x9 T0 M0 n0 (fun r _ M => ∃ v : Int32, r = some (.int v) ∧ rI M o0 ∧ (rC M o0 44) ∧ (rP M o0) ∧ (rB M o0 12) ∧ (rv M0 o0 32 ≤ rv M o0 32))) := by
                intro T_56 M_56 n_56 I_56 h_q0_56 iv0_56 iv1_56 iv2_56 iv3_56 iv4_56 kKR_56 kKC_56 kKP_56 kKB_56 kKW_56
                refine mv_bipush (v := 20) d_TrustDeskModel_fund_66 (by decide) ?_
                refine mv_aload_n d_TrustDeskModel_fund_68 rfl rfl ?_
                obtain ⟨v58, q57⟩ := tm_atI I_56 h_q0_56 (k := 32) rfl
                refine tr_getK q57 d_TrustDeskModel_fund_69 f_TrustDeskModel_415_13 ?_
                have := kKR_56.f (k := 32) q57 rfl
                have := tm_rv q57
                refine mv_iadd d_TrustDeskModel_fund_72 ?_
                refine mv_istore_n (lv' := [(3, .int (20 + v58)), (0, .ref o0), (1, .int x1), (2, .int x2)]) d_TrustDeskModel_fund_73 rfl (by decide) rfl ?_
                refine mv_aload_n d_TrustDeskModel_fund_74 rfl rfl ?_
                refine mv_iload_n d_TrustDeskModel_fund_75 rfl rfl ?_
                obtain ⟨_, b65, -⟩ := I_56.1 _ _ h_q0_56
                have b66 : (20 + v58 : Int32).toInt = (20 + v58.toInt) := mz_add2 (by decide) rfl (by have := kKR_56.1 15 _ _ rfl; have := kKR_56.1 16 _ _ rfl; have := kKR_56.1 19 _ _ rfl; omega) (by have := kKR_56.1 15 _ _ rfl; have := kKR_56.1 16 _ _ rfl; have := kKR_56.1 19 _ _ rfl; omega)
                refine mv_callV (kc' := 0) (ks' := 0) (As := [.int (20 + v58)]) (st9 := [.int (20 + v58), .ref o0]) d_TrustDeskModel_fund_76 lV_TrustDeskModel_388 b65 rfl (tc_TrustDeskModel_stops_x (d := (d + 25)) (x9 := x9) (o0 := o0) (x1 := (20 + v58)) h_q0_56 kKR_56 (by have := kKR_56.1 15 _ _ rfl; have := kKR_56.1 16 _ _ rfl; have := kKR_56.1 19 _ _ rfl; omega) I_56.start) rfl (Nat.le_of_ble_eq_true rfl) (Nat.le_of_ble_eq_true rfl) (Nat.le_of_ble_eq_true rfl) (hst := rfl) (fun b59r M60 n61 b59 => ?_)
                obtain ⟨T62, J63, v67, rfl, R68, f69, f70⟩ := b59
                have I64 := I_56.call J63 (tm_sub (by decide)) (Or.inl rfl)
                have t71 := J63.up h_q0_56
                replace f69 := Im.i f69
                replace f70 := Im.i f70
                have z72 := (rv_c I_56 J63 (I_56.up h_o0) (k := 15) rfl)
                have z73 := (rv_c I_56 J63 (I_56.up h_o0) (k := 16) rfl)
                have z74 := (rv_c I_56 J63 (I_56.up h_o0) (k := 17) rfl)
                have z75 := (rv_c I_56 J63 (I_56.up h_o0) (k := 19) rfl)
                have z76 := (rv_c I_56 J63 (I_56.up h_o0) (k := 22) rfl)
                have z77 := (rv_c I_56 J63 (I_56.up h_o0) (k := 24) rfl)
                have z78 := (rv_c I_56 J63 (I_56.up h_o0) (k := 27) rfl)
                have z79 := (rv_c I_56 J63 (I_56.up h_o0) (k := 32) rfl)
                have z80 := (rv_c I_56 J63 (I_56.up h_o0) (k := 49) rfl)
                have K81 : rP M60 o0 := kKP_56.same (sA_c I_56 J63 (I_56.up h_o0) (by decide +kernel)) (sF_c I_56 J63 (I_56.up h_o0) (by decide +kernel))
                have K82 : rB M60 o0 12 := kKB_56.same (sA_c I_56 J63 (I_56.up h_o0) (by decide +kernel)) (sF_c I_56 J63 (I_56.up h_o0) (by decide +kernel))
                have K83 : (v67.toInt < 0 → rC M60 o0 44) ∧ (0 ≤ v67.toInt → rC M60 o0 ((20 + v58).toNatClampNeg)) := rC.st kKC_56 kKR_56 kKW_56 (by have := mz_nat9 (i := (20 + v58)) (by have := kKR_56.1 15 _ _ rfl; have := kKR_56.1 16 _ _ rfl; have := kKR_56.1 19 _ _ rfl; omega); have := kKR_56.1 15 _ _ rfl; have := kKR_56.1 16 _ _ rfl; have := kKR_56.1 19 _ _ rfl; omega) (by unfold rU; have := mz_nat9 (i := (20 + v58)) (by have := kKR_56.1 15 _ _ rfl; have := kKR_56.1 16 _ _ rfl; have := kKR_56.1 19 _ _ rfl; omega); have := kKR_56.1 15 _ _ rfl; have := kKR_56.1 16 _ _ rfl; have := kKR_56.1 19 _ _ rfl; omega) f69 f70 (sA_c I_56 J63 (I_56.up h_o0) (by decide)) (sF_c I_56 J63 (I_56.up h_o0) (by decide))
                have h84 := kc_of f69 f70 kKR_56 kKW_56
                have := (kKR_56.2 6 _ _ rfl 44)
                have K85 : sA [7] M60 M60 o0 := sA.rf
                have : 0 ≤ v67.toInt → ra M60 o0 6 (20 + v58).toNatClampNeg = ra M_56 o0 6 44 := fun h9 => by
                  by_cases w9 : rv M_56 o0 19 = 0
                  · exact (f70.o w9).2.2.2.2.2.2.2
                  · have := (f69.o w9).1; omega
                have q86 := J63.keep h_q0_56 (by decide) q57
                refine mv_istore (lv' := [(4, .int v67), (3, .int (20 + v58)), (0, .ref o0), (1, .int x1), (2, .int x2)]) d_TrustDeskModel_fund_79 (by decide) rfl ?_
                refine mv_iload d_TrustDeskModel_fund_81 rfl ?_
                have := mz_hi v67
                refine mv_if_geZ (tgt := 89) (a := v67.toInt) d_TrustDeskModel_fund_83 (by decide) rfl (fun b87 => ?_) (fun b87 => ?_)
                · have K88 : rC M60 o0 ((20 + v58).toNatClampNeg) := K83.2 (by omega)
                  refine mv_aload_n d_TrustDeskModel_fund_89 rfl rfl ?_
                  refine tr_getK (k := 32) q86 d_TrustDeskModel_fund_90 f_TrustDeskModel_415_13 ?_
                  refine mv_istore (lv' := [(5, .int v58), (4, .int v67), (3, .int (20 + v58)), (0, .ref o0), (1, .int x1), (2, .int x2)]) d_TrustDeskModel_fund_93 (by decide) rfl ?_
                  refine mv_aload_n d_TrustDeskModel_fund_95 rfl rfl ?_
                  obtain ⟨a90, q89, t_a90⟩ := tm_atR I64 t71 (k := 33) rfl
                  refine tr_getK q89 d_TrustDeskModel_fund_96 f_TrustDeskModel_66_13 ?_
                  refine mv_iload d_TrustDeskModel_fund_99 rfl ?_
                  refine mv_iload_n d_TrustDeskModel_fund_101 rfl rfl ?_
                  refine tr_iastR (k := 33) I64 R68 (I64.up h_o0) q89 t_a90 (by decide) (by decide) (fun lo hi h => by cases h; have := R68.1 15 _ _ rfl; have := R68.1 16 _ _ rfl; have := R68.1 19 _ _ rfl; exact ⟨by show (0 : Int) ≤ x1.toInt; omega, by show x1.toInt ≤ (999 : Int); omega⟩) (Or.inl (by decide)) d_TrustDeskModel_fund_102 (vp_in_iff.mpr (by have := R68.1 15 _ _ rfl; have := R68.1 16 _ _ rfl; have := R68.1 19 _ _ rfl; omega)) (fun M91 I92 K93 R94 E95 A96 V97 => ?_)
                  have z98 := (V97 15).trans z72
                  have z99 := (V97 16).trans z73
                  have z100 := (V97 17).trans z74
                  have z101 := (V97 19).trans z75
                  have z102 := (V97 22).trans z76
                  have z103 := (V97 24).trans z77
                  have z104 := (V97 27).trans z78
                  have z105 := (V97 32).trans z79
                  have z106 := (V97 49).trans z80
                  have z107 := (A96 5 (by decide) rfl 44)
                  have z108 := (A96 6 (by decide) rfl 44)
                  have z109 := (A96 6 (by decide) rfl ((20 + v58).toNatClampNeg))
                  have K110 : rP M91 o0 := K81.same (sA_a A96 (by decide +kernel)) (sF_a V97)
                  have K111 : rB M91 o0 12 := K82.same (sA_a A96 (by decide +kernel)) (sF_a V97)
                  have K112 : sA [7] M60 M91 o0 := K85.trans (sA_a A96 (by decide +kernel))
                  have K113 : rC M91 o0 ((20 + v58).toNatClampNeg) := K88.same (sA_a A96 (by decide +kernel)) (sF_a V97)
                  clear z72 z73 z74 z76 z77 z78 z79 z80
                  refine mv_aload_n d_TrustDeskModel_fund_103 rfl rfl ?_
                  obtain ⟨a115, q114, t_a115⟩ := tm_atR I92 t71 (k := 34) rfl
                  refine tr_getK q114 d_TrustDeskModel_fund_104 f_TrustDeskModel_69_13 ?_
                  refine mv_iload d_TrustDeskModel_fund_107 rfl ?_
                  refine mv_iload_n d_TrustDeskModel_fund_109 rfl rfl ?_
                  refine tr_iastR (k := 34) I92 R94 (I92.up h_o0) q114 t_a115 (by decide) (by decide) (fun lo hi h => by cases h; have := R94.1 15 _ _ rfl; have := R94.1 16 _ _ rfl; have := R94.1 19 _ _ rfl; exact ⟨by show (0 : Int) ≤ x2.toInt; omega, by show x2.toInt ≤ (99999 : Int); omega⟩) (Or.inl (by decide)) d_TrustDeskModel_fund_110 (vp_in_iff.mpr (by have := R94.1 15 _ _ rfl; have := R94.1 16 _ _ rfl; have := R94.1 19 _ _ rfl; omega)) (fun M116 I117 K118 R119 E120 A121 V122 => ?_)
                  have z123 := (V122 15).trans z98
                  have z124 := (V122 16).trans z99
                  have z125 := (V122 17).trans z100
                  have z126 := (V122 19).trans z101
                  have z127 := (V122 22).trans z102
                  have z128 := (V122 24).trans z103
                  have z129 := (V122 27).trans z104
                  have z130 := (V122 32).trans z105
                  have z131 := (V122 49).trans z106
                  have z132 := (A121 5 (by decide) rfl 44).trans z107
                  have z133 := (A121 6 (by decide) rfl 44).trans z108
                  have z134 := (A121 6 (by decide) rfl ((20 + v58).toNatClampNeg)).trans z109
                  have K135 : rP M116 o0 := K110.same (sA_a A121 (by decide +kernel)) (sF_a V122)
                  have K136 : rB M116 o0 12 := K111.same (sA_a A121 (by decide +kernel)) (sF_a V122)
                  have K137 : sA [7] M60 M116 o0 := K112.trans (sA_a A121 (by decide +kernel))
                  have K138 : rC M116 o0 ((20 + v58).toNatClampNeg) := K113.same (sA_a A121 (by decide +kernel)) (sF_a V122)
                  clear z98 z99 z100 z102 z103 z104 z105 z106 z107 z108 z109
                  refine mv_aload_n d_TrustDeskModel_fund_111 rfl rfl ?_
                  obtain ⟨a140, q139, t_a140⟩ := tm_atR I117 t71 (k := 35) rfl
                  refine tr_getK q139 d_TrustDeskModel_fund_112 f_TrustDeskModel_72_13 ?_
                  refine mv_iload d_TrustDeskModel_fund_115 rfl ?_
                  refine mv_lconst (v := 0) d_TrustDeskModel_fund_117 (by decide) ?_
                  refine tr_lastR (k := 35) I117 R119 (I117.up h_o0) q139 t_a140 (by decide) (by decide) (fun lo hi h => by cases h; exact (by decide)) (Or.inl (by decide)) d_TrustDeskModel_fund_118 (vp_in_iff.mpr (by have := R119.1 15 _ _ rfl; have := R119.1 16 _ _ rfl; have := R119.1 19 _ _ rfl; omega)) (fun M141 I142 K143 R144 E145 A146 V147 => ?_)
                  have z148 := (V147 15).trans z123
                  have z149 := (V147 16).trans z124
                  have z150 := (V147 17).trans z125
                  have z151 := (V147 19).trans z126
                  have z152 := (V147 22).trans z127
                  have z153 := (V147 24).trans z128
                  have z154 := (V147 27).trans z129
                  have z155 := (V147 32).trans z130
                  have z156 := (V147 49).trans z131
                  have z157 := (A146 5 (by decide) rfl 44).trans z132
                  have z158 := (A146 6 (by decide) rfl 44).trans z133
                  have z159 := (A146 6 (by decide) rfl ((20 + v58).toNatClampNeg)).trans z134
                  have K160 : rP M141 o0 := K135.same (sA_a A146 (by decide +kernel)) (sF_a V147)
                  have K161 : rB M141 o0 12 := K136.same (sA_a A146 (by decide +kernel)) (sF_a V147)
                  have K162 : sA [7] M60 M141 o0 := K137.trans (sA_a A146 (by decide +kernel))
                  have K163 : rC M141 o0 ((20 + v58).toNatClampNeg) := K138.same (sA_a A146 (by decide +kernel)) (sF_a V147)
                  clear z123 z124 z125 z127 z128 z129 z130 z131 z132 z133 z134
                  refine mv_aload_n d_TrustDeskModel_fund_119 rfl rfl ?_
                  obtain ⟨a165, q164, t_a165⟩ := tm_atR I142 t71 (k := 36) rfl
                  refine tr_getK q164 d_TrustDeskModel_fund_120 f_TrustDeskModel_76_13 ?_
                  refine mv_iload d_TrustDeskModel_fund_123 rfl ?_
                  refine mv_iconst (v := 0) d_TrustDeskModel_fund_125 (by decide) ?_
                  refine tr_iastR (k := 36) I142 R144 (I142.up h_o0) q164 t_a165 (by decide) (by decide) (fun lo hi h => by cases h) (Or.inl (by decide)) d_TrustDeskModel_fund_126 (vp_in_iff.mpr (by have := R144.1 15 _ _ rfl; have := R144.1 16 _ _ rfl; have := R144.1 19 _ _ rfl; omega)) (fun M166 I167 K168 R169 E170 A171 V172 => ?_)
                  have z173 := (V172 15).trans z148
                  have z174 := (V172 16).trans z149
                  have z175 := (V172 17).trans z150
                  have z176 := (V172 19).trans z151
                  have z177 := (V172 22).trans z152
                  have z178 := (V172 24).trans z153
                  have z179 := (V172 27).trans z154
                  have z180 := (V172 32).trans z155
                  have z181 := (V172 49).trans z156
                  have z182 := (A171 5 (by decide) rfl 44).trans z157
                  have z183 := (A171 6 (by decide) rfl 44).trans z158
                  have z184 := (A171 6 (by decide) rfl ((20 + v58).toNatClampNeg)).trans z159
                  have K185 : rP M166 o0 := K160.same (sA_a A171 (by decide +kernel)) (sF_a V172)
                  have K186 : rB M166 o0 12 := K161.same (sA_a A171 (by decide +kernel)) (sF_a V172)
                  have K187 : sA [7] M60 M166 o0 := K162.trans (sA_a A171 (by decide +kernel))
                  have K188 : rC M166 o0 ((20 + v58).toNatClampNeg) := K163.same (sA_a A171 (by decide +kernel)) (sF_a V172)
                  clear z148 z149 z150 z152 z153 z154 z155 z156 z157 z158 z159
                  refine mv_aload_n d_TrustDeskModel_fund_127 rfl rfl ?_
                  obtain ⟨a190, q189, t_a190⟩ := tm_atR I167 t71 (k := 37) rfl
                  refine tr_getK q189 d_TrustDeskModel_fund_128 f_TrustDeskModel_79_13 ?_
                  refine mv_iload d_TrustDeskModel_fund_131 rfl ?_
                  refine mv_iconst (v := (-1)) d_TrustDeskModel_fund_133 (by decide) ?_
                  refine tr_iastR (k := 37) I167 R169 (I167.up h_o0) q189 t_a190 (by decide) (by decide) (fun lo hi h => by cases h; exact (by decide)) (Or.inl (by decide)) d_TrustDeskModel_fund_134 (vp_in_iff.mpr (by have := R169.1 15 _ _ rfl; have := R169.1 16 _ _ rfl; have := R169.1 19 _ _ rfl; omega)) (fun M191 I192 K193 R194 E195 A196 V197 => ?_)
                  have z198 := (V197 15).trans z173
                  have z199 := (V197 16).trans z174
                  have z200 := (V197 17).trans z175
                  have z201 := (V197 19).trans z176
                  have z202 := (V197 22).trans z177
                  have z203 := (V197 24).trans z178
                  have z204 := (V197 27).trans z179
                  have z205 := (V197 32).trans z180
                  have z206 := (V197 49).trans z181
                  have z207 := (A196 5 (by decide) rfl 44).trans z182
                  have z208 := (A196 6 (by decide) rfl 44).trans z183
                  have z209 := (A196 6 (by decide) rfl ((20 + v58).toNatClampNeg)).trans z184
                  have K210 : rP M191 o0 := K185.out A196 E195 V197 (by have := mz_nat9 (i := v58) (by have := R169.1 15 _ _ rfl; have := R169.1 16 _ _ rfl; have := R169.1 19 _ _ rfl; omega); have := R169.1 15 _ _ rfl; have := R169.1 16 _ _ rfl; have := R169.1 19 _ _ rfl; omega)
                  have K211 : rB M191 o0 12 := K186.out A196 E195 V197 (by have := mz_nat9 (i := v58) (by have := R169.1 15 _ _ rfl; have := R169.1 16 _ _ rfl; have := R169.1 19 _ _ rfl; omega); have := R169.1 15 _ _ rfl; have := R169.1 16 _ _ rfl; have := R169.1 19 _ _ rfl; omega)
                  have K212 : sA [7] M60 M191 o0 := K187.trans (sA_a A196 (by decide +kernel))
                  have K213 : rC M191 o0 ((20 + v58).toNatClampNeg) := K188.same (sA_a A196 (by decide +kernel)) (sF_a V197)
                  have := (K186.2 v58.toNatClampNeg (by have := mz_nat9 (i := v58) (by have := R169.1 15 _ _ rfl; have := R169.1 16 _ _ rfl; have := R169.1 19 _ _ rfl; omega); have := R169.1 15 _ _ rfl; have := R169.1 16 _ _ rfl; have := R169.1 19 _ _ rfl; omega) (by have := mz_nat9 (i := v58) (by have := R169.1 15 _ _ rfl; have := R169.1 16 _ _ rfl; have := R169.1 19 _ _ rfl; omega); have := R169.1 15 _ _ rfl; have := R169.1 16 _ _ rfl; have := R169.1 19 _ _ rfl; omega)).1 (by have := mz_nat9 (i := v58) (by have := R169.1 15 _ _ rfl; have := R169.1 16 _ _ rfl; have := R169.1 19 _ _ rfl; omega); have := R169.1 15 _ _ rfl; have := R169.1 16 _ _ rfl; have := R169.1 19 _ _ rfl; omega)
                  have := A196 43 (by decide) rfl v58.toNatClampNeg
                  have : ra M191 o0 37 v58.toNatClampNeg = -1 := (E195 _).trans (if_pos rfl)
                  clear z173 z174 z175 z177 z178 z179 z180 z181 z182 z183 z184
                  refine mv_aload_n d_TrustDeskModel_fund_135 rfl rfl ?_
                  obtain ⟨a215, q214, t_a215⟩ := tm_atR I192 t71 (k := 38) rfl
                  refine tr_getK q214 d_TrustDeskModel_fund_136 f_TrustDeskModel_82_13 ?_
                  refine mv_iload d_TrustDeskModel_fund_139 rfl ?_
                  refine mv_bipush (v := 7) d_TrustDeskModel_fund_141 (by decide) ?_
                  refine tr_iastR (k := 38) I192 R194 (I192.up h_o0) q214 t_a215 (by decide) (by decide) (fun lo hi h => by cases h) (Or.inl (by decide)) d_TrustDeskModel_fund_143 (vp_in_iff.mpr (by have := R194.1 15 _ _ rfl; have := R194.1 16 _ _ rfl; have := R194.1 19 _ _ rfl; omega)) (fun M216 I217 K218 R219 E220 A221 V222 => ?_)
                  have z223 := (V222 15).trans z198
                  have z224 := (V222 16).trans z199
                  have z225 := (V222 17).trans z200
                  have z226 := (V222 19).trans z201
                  have z227 := (V222 22).trans z202
                  have z228 := (V222 24).trans z203
                  have z229 := (V222 27).trans z204
                  have z230 := (V222 32).trans z205
                  have z231 := (V222 49).trans z206
                  have z232 := (A221 5 (by decide) rfl 44).trans z207
                  have z233 := (A221 6 (by decide) rfl 44).trans z208
                  have z234 := (A221 6 (by decide) rfl ((20 + v58).toNatClampNeg)).trans z209
                  have z235 := (A221 43 (by decide) rfl v58.toNatClampNeg)
                  have z236 := (A221 37 (by decide) rfl v58.toNatClampNeg)
                  have K237 : rP M216 o0 := K210.same (sA_a A221 (by decide +kernel)) (sF_a V222)
                  have K238 : rB M216 o0 12 := K211.same (sA_a A221 (by decide +kernel)) (sF_a V222)
                  have K239 : sA [7] M60 M216 o0 := K212.trans (sA_a A221 (by decide +kernel))
                  have K240 : rC M216 o0 ((20 + v58).toNatClampNeg) := K213.same (sA_a A221 (by decide +kernel)) (sF_a V222)
                  clear z198 z199 z200 z202 z203 z204 z205 z206 z207 z208 z209
                  refine mv_aload_n d_TrustDeskModel_fund_144 rfl rfl ?_
                  obtain ⟨a242, q241, t_a242⟩ := tm_atR I217 t71 (k := 39) rfl
                  refine tr_getK q241 d_TrustDeskModel_fund_145 f_TrustDeskModel_85_13 ?_
                  refine mv_iload d_TrustDeskModel_fund_148 rfl ?_
                  refine mv_iconst (v := 1) d_TrustDeskModel_fund_150 (by decide) ?_
                  refine tr_iastR (k := 39) I217 R219 (I217.up h_o0) q241 t_a242 (by decide) (by decide) (fun lo hi h => by cases h) (Or.inl (by decide)) d_TrustDeskModel_fund_151 (vp_in_iff.mpr (by have := R219.1 15 _ _ rfl; have := R219.1 16 _ _ rfl; have := R219.1 19 _ _ rfl; omega)) (fun M243 I244 K245 R246 E247 A248 V249 => ?_)
                  have z250 := (V249 15).trans z223
                  have z251 := (V249 16).trans z224
                  have z252 := (V249 17).trans z225
                  have z253 := (V249 19).trans z226
                  have z254 := (V249 22).trans z227
                  have z255 := (V249 24).trans z228
                  have z256 := (V249 27).trans z229
                  have z257 := (V249 32).trans z230
                  have z258 := (V249 49).trans z231
                  have z259 := (A248 5 (by decide) rfl 44).trans z232
                  have z260 := (A248 6 (by decide) rfl 44).trans z233
                  have z261 := (A248 6 (by decide) rfl ((20 + v58).toNatClampNeg)).trans z234
                  have z262 := (A248 43 (by decide) rfl v58.toNatClampNeg).trans z235
                  have z263 := (A248 37 (by decide) rfl v58.toNatClampNeg).trans z236
                  have K264 : rP M243 o0 := K237.same (sA_a A248 (by decide +kernel)) (sF_a V249)
                  have K265 : rB M243 o0 12 := K238.same (sA_a A248 (by decide +kernel)) (sF_a V249)
                  have K266 : sA [7] M60 M243 o0 := K239.trans (sA_a A248 (by decide +kernel))
                  have K267 : rC M243 o0 ((20 + v58).toNatClampNeg) := K240.same (sA_a A248 (by decide +kernel)) (sF_a V249)
                  clear z223 z224 z225 z227 z228 z229 z230 z231 z232 z233 z234 z235 z236
                  refine mv_iconst (v := 0) d_TrustDeskModel_fund_152 (by decide) ?_
                  refine mv_istore (lv' := [(6, .int 0), (5, .int v58), (4, .int v67), (3, .int (20 + v58)), (0, .ref o0), (1, .int x1), (2, .int x2)]) d_TrustDeskModel_fund_153 (by decide) rfl ?_
                  have L155_268 : ∀ (k : Nat) (i6_268 : Int32) (T_268 : tm_H) (M_268 : mj_M) (n_268 : Nat), tm_I tm_FT (tm_in w_TrustDeskModel_fund_x) x9 T0 M0 n0 T_268 M_268 n_268 → T_268 o0 = some (0, 13, 0) → 0 ≤ i6_268.toInt → rv M_268 o0 27 = rv M0 o0 27 → rv M_268 o0 32 = rv M0 o0 32 → rv M_268 o0 49 = rv M0 o0 49 → ra M_268 o0 6 (20 + v58).toNatClampNeg = ra M60 o0 6 (20 + v58).toNatClampNeg → ra M_268 o0 37 (v58).toNatClampNeg = -1 → ra M_268 o0 43 (v58).toNatClampNeg ≤ i6_268.toInt → ra M_268 o0 43 (v58).toNatClampNeg ≤ kc M60 o0 (20 * (20 + v58).toNatClampNeg) (i6_268.toInt).toNat → i6_268.toInt ≤ ra M60 o0 6 (20 + v58).toNatClampNeg → (rI M_268 o0) → (rP M_268 o0) → (rB M_268 o0 v58.toNatClampNeg) → (sA [7] M60 M_268 o0) → (rC M_268 o0 ((20 + v58).toNatClampNeg)) → 2147483647 - i6_268.toInt < (k : Int) → mj_V g l kY_TrustDeskModel_fund (d + 27) 155 [(6, .int i6_268), (5, .int v58), (4, .int v67), (3, .int (20 + v58)), (0, .ref o0), (1, .int x1), (2, .int x2)] [] M_268 n_268 0 0 (tm_Q tm_FT (tm_in w_TrustDeskModel_fund_x) x9 T0 M0 n0 (fun r _ M => ∃ v : Int32, r = some (.int v) ∧ rI M o0 ∧ (rC M o0 44) ∧ (rP M o0) ∧ (rB M o0 12) ∧ (rv M0 o0 32 ≤ rv M o0 32))) := by
                    intro k268
                    induction k268 with
                    | zero =>
                      intro i6_268 T_268 M_268 n_268 I_268 h_q0_268 iv0_268 iv1_268 iv2_268 iv3_268 iv4_268 iv5_268 iv6_268 iv7_268 iv8_268 kKR_268 kKP_268 kKB_268 kKY_268 kKC_268 hk268
                      have := mz_hi i6_268
                      have := kKR_268.1 15 _ _ rfl
                      have := kKR_268.1 16 _ _ rfl
                      have := kKR_268.1 19 _ _ rfl
                      omega
                    | succ k268 ih268 =>
                      intro i6_268 T_268 M_268 n_268 I_268 h_q0_268 iv0_268 iv1_268 iv2_268 iv3_268 iv4_268 iv5_268 iv6_268 iv7_268 iv8_268 kKR_268 kKP_268 kKB_268 kKY_268 kKC_268 hk268
                      have := kc_two (M := M60) (o := o0) (b := 20 * (20 + v58).toNatClampNeg) (n := i6_268.toInt.toNat)
                      refine mv_iload d_TrustDeskModel_fund_155 rfl ?_
                      refine mv_aload_n d_TrustDeskModel_fund_157 rfl rfl ?_
                      obtain ⟨a270, q269, t_a270⟩ := tm_atR I_268 h_q0_268 (k := 6) rfl
                      refine tr_getK q269 d_TrustDeskModel_fund_158 f_TrustDeskModel_23_13 ?_
                      refine mv_iload_n d_TrustDeskModel_fund_161 rfl rfl ?_
                      have b271 : (20 + v58 : Int32).toInt = (20 + v58.toInt) := mz_add2 (by decide) rfl (by have := kKR_268.1 15 _ _ rfl; have := kKR_268.1 16 _ _ rfl; have := kKR_268.1 19 _ _ rfl; omega) (by have := kKR_268.1 15 _ _ rfl; have := kKR_268.1 16 _ _ rfl; have := kKR_268.1 19 _ _ rfl; omega)
                      refine tr_ialdR (o := o0) (k := 6) I_268 q269 t_a270 (by decide) d_TrustDeskModel_fund_162 (vp_in_iff.mpr (by have := kKR_268.1 15 _ _ rfl; have := kKR_268.1 16 _ _ rfl; have := kKR_268.1 19 _ _ rfl; omega)) (fun v272 e273 => ?_)
                      have := kKR_268.a (k := 6) rfl ((20 + v58) : Int32).toNatClampNeg
                      have : v272.toInt = ra M_268 o0 6 (20 + v58).toNatClampNeg := e273
                      have := mz_hi i6_268
                      have := mz_hi v272
                      refine mv_icmp_geZ (tgt := 274) (a := i6_268.toInt) (b := v272.toInt) d_TrustDeskModel_fund_163 (by decide) rfl rfl (fun b274 => ?_) (fun b274 => ?_)
                      · refine mv_aload_n d_TrustDeskModel_fund_274 rfl rfl ?_
                        obtain ⟨a276, q275, t_a276⟩ := tm_atR I_268 h_q0_268 (k := 41) rfl
                        refine tr_getK q275 d_TrustDeskModel_fund_275 f_TrustDeskModel_92_13 ?_
                        refine mv_bipush (v := 12) d_TrustDeskModel_fund_278 (by decide) ?_
                        refine mv_iload d_TrustDeskModel_fund_280 rfl ?_
                        refine mv_imul d_TrustDeskModel_fund_282 ?_
                        refine mv_iload d_TrustDeskModel_fund_283 rfl ?_
                        refine mv_iadd d_TrustDeskModel_fund_285 ?_
                        refine mv_ldcw d_TrustDeskModel_fund_286 k_TrustDeskModel_432 ?_
                        have b277 : (12 * v58 : Int32).toInt = (12 * v58.toInt) := mz_mul2 (by decide) rfl (by have := kKR_268.1 15 _ _ rfl; have := kKR_268.1 16 _ _ rfl; have := kKR_268.1 19 _ _ rfl; omega) (by have := kKR_268.1 15 _ _ rfl; have := kKR_268.1 16 _ _ rfl; have := kKR_268.1 19 _ _ rfl; omega)
                        have b278 : ((12 * v58) + v58 : Int32).toInt = ((12 * v58.toInt) + v58.toInt) := mz_add2 b277 rfl (by have := kKR_268.1 15 _ _ rfl; have := kKR_268.1 16 _ _ rfl; have := kKR_268.1 19 _ _ rfl; omega) (by have := kKR_268.1 15 _ _ rfl; have := kKR_268.1 16 _ _ rfl; have := kKR_268.1 19 _ _ rfl; omega)
                        refine tr_iastR (k := 41) I_268 kKR_268 (I_268.up h_o0) q275 t_a276 (by decide) (by decide) (fun lo hi h => by cases h; exact (by decide)) (Or.inl (by decide)) d_TrustDeskModel_fund_289 (vp_in_iff.mpr (by have := kKR_268.1 15 _ _ rfl; have := kKR_268.1 16 _ _ rfl; have := kKR_268.1 19 _ _ rfl; omega)) (fun M279 I280 K281 R282 E283 A284 V285 => ?_)
                        have z286 := (V285 15)
                        have z287 := (V285 16)
                        have z288 := (V285 17)
                        have z289 := (V285 19)
                        have z290 := (V285 22)
                        have z291 := (V285 24)
                        have z292 := (V285 27)
                        have z293 := (V285 32)
                        have z294 := (V285 49)
                        have z295 := (A284 5 (by decide) rfl 44)
                        have z296 := (A284 6 (by decide) rfl 44)
                        have z297 := (A284 6 (by decide) rfl ((20 + v58).toNatClampNeg))
                        have z298 := (A284 43 (by decide) rfl v58.toNatClampNeg)
                        have z299 := (A284 37 (by decide) rfl v58.toNatClampNeg)
                        have K300 : sA [7] M60 M279 o0 := kKY_268.trans (sA_a A284 (by decide +kernel))
                        have K301 : rC M279 o0 ((20 + v58).toNatClampNeg) := kKC_268.same (sA_a A284 (by decide +kernel)) (sF_a V285)
                        have : kc M60 o0 (20 * (20 + v58).toNatClampNeg) i6_268.toInt.toNat ≤ 6 := by rw [show i6_268.toInt.toNat = (ra M_56 o0 6 44).toNat from by omega]; exact h84 (by omega)
                        refine mv_aload_n d_TrustDeskModel_fund_290 rfl rfl ?_
                        refine mv_dup d_TrustDeskModel_fund_291 rfl ?_
                        obtain ⟨v303, q302⟩ := tm_atI I280 h_q0_268 (k := 32) rfl
                        refine tr_getK q302 d_TrustDeskModel_fund_292 f_TrustDeskModel_415_13 ?_
                        have := R282.f (k := 32) q302 rfl
                        have := (tm_rv q302).symm.trans z293
                        have := tm_rv q302
                        refine mv_iconst (v := 1) d_TrustDeskModel_fund_295 (by decide) ?_
                        refine mv_iadd d_TrustDeskModel_fund_296 ?_
                        have b304 : (v303 + 1 : Int32).toInt = (v303.toInt + 1) := mz_add2 rfl (by decide) (by have := R282.1 15 _ _ rfl; have := R282.1 16 _ _ rfl; have := R282.1 19 _ _ rfl; omega) (by have := R282.1 15 _ _ rfl; have := R282.1 16 _ _ rfl; have := R282.1 19 _ _ rfl; omega)
                        refine tr_putR (k := 32) I280 R282 h_q0_268 rfl ⟨_, rfl⟩ (fun _ h => by cases h) rfl (fun lo hi h => by cases h; have := R282.1 15 _ _ rfl; have := R282.1 16 _ _ rfl; have := R282.1 19 _ _ rfl; exact ⟨by show (0 : Int) ≤ (v303 + 1).toInt; omega, by show (v303 + 1).toInt ≤ (12 : Int); omega⟩) (Or.inl (by decide)) d_TrustDeskModel_fund_297 p_TrustDeskModel_415_13 rfl rfl (fun M305 I306 q307 K308 R309 A310 V311 => ?_)
                        have z312 := (V311 15 (by decide)).trans z286
                        have z313 := (V311 16 (by decide)).trans z287
                        have z314 := (V311 17 (by decide)).trans z288
                        have z315 := (V311 19 (by decide)).trans z289
                        have z316 := (V311 22 (by decide)).trans z290
                        have z317 := (V311 24 (by decide)).trans z291
                        have z318 := (V311 27 (by decide)).trans z292
                        have z319 := (V311 49 (by decide)).trans z294
                        have z320 := (A310 5 (by decide) 44).trans z295
                        have z321 := (A310 6 (by decide) 44).trans z296
                        have z322 := (A310 6 (by decide) ((20 + v58).toNatClampNeg)).trans z297
                        have z323 := (A310 43 (by decide) v58.toNatClampNeg).trans z298
                        have z324 := (A310 37 (by decide) v58.toNatClampNeg).trans z299
                        have z325 : rv M305 o0 32 = (v303 + 1).toInt := tm_rv q307
                        have K326 : sA [7] M60 M305 o0 := K300.trans (sA_f A310 (by decide))
                        have K327 : rC M305 o0 44 := rC.fund K301 A310 V311 (by have := mz_nat9 (i := (20 + v58)) (by have := R282.1 15 _ _ rfl; have := R282.1 16 _ _ rfl; have := R282.1 19 _ _ rfl; omega); have := R282.1 15 _ _ rfl; have := R282.1 16 _ _ rfl; have := R282.1 19 _ _ rfl; omega) (by have := R282.1 15 _ _ rfl; have := R282.1 16 _ _ rfl; have := R282.1 19 _ _ rfl; omega) (by have := R282.1 15 _ _ rfl; have := R282.1 16 _ _ rfl; have := R282.1 19 _ _ rfl; omega) (by have := R282.1 15 _ _ rfl; have := R282.1 16 _ _ rfl; have := R282.1 19 _ _ rfl; omega)
                        have h328 := rPB.fund kKP_268 kKB_268 (by have := mz_nat9 (i := v58) (by have := R282.1 15 _ _ rfl; have := R282.1 16 _ _ rfl; have := R282.1 19 _ _ rfl; omega); have := R282.1 15 _ _ rfl; have := R282.1 16 _ _ rfl; have := R282.1 19 _ _ rfl; omega) E283 (by have := mz_nat9 (i := ((12 * v58) + v58)) (by have := R282.1 15 _ _ rfl; have := R282.1 16 _ _ rfl; have := R282.1 19 _ _ rfl; omega); have := R282.1 15 _ _ rfl; have := R282.1 16 _ _ rfl; have := R282.1 19 _ _ rfl; omega) A284 V285 A310 (by have := R282.1 15 _ _ rfl; have := R282.1 16 _ _ rfl; have := R282.1 19 _ _ rfl; omega) (by have := R282.1 15 _ _ rfl; have := R282.1 16 _ _ rfl; have := R282.1 19 _ _ rfl; omega) (by have := R282.1 15 _ _ rfl; have := R282.1 16 _ _ rfl; have := R282.1 19 _ _ rfl; omega) (by have := R282.1 15 _ _ rfl; have := R282.1 16 _ _ rfl; have := R282.1 19 _ _ rfl; omega)
                        have K329 : rP M305 o0 := h328.1
                        have K330 : rB M305 o0 12 := h328.2
                        clear z286 z287 z288 z290 z291 z292 z294 z295 z296 z297 z298 z299
                        refine mv_iload d_TrustDeskModel_fund_300 rfl ?_
                        exact mv_iret d_TrustDeskModel_fund_302 rfl (by first | rfl | decide) ⟨_, I306, _, rfl, R309, K327, K329, K330, (by have := R309.1 15 _ _ rfl; have := R309.1 16 _ _ rfl; have := R309.1 19 _ _ rfl; omega)⟩
                      · refine mv_bipush (v := 20) d_TrustDeskModel_fund_166 (by decide) ?_
                        refine mv_iload_n d_TrustDeskModel_fund_168 rfl rfl ?_
                        refine mv_imul d_TrustDeskModel_fund_169 ?_
                        refine mv_iload d_TrustDeskModel_fund_170 rfl ?_
                        refine mv_iadd d_TrustDeskModel_fund_172 ?_
                        refine mv_istore (lv' := [(7, .int ((20 * (20 + v58)) + i6_268)), (6, .int i6_268), (5, .int v58), (4, .int v67), (3, .int (20 + v58)), (0, .ref o0), (1, .int x1), (2, .int x2)]) d_TrustDeskModel_fund_173 (by decide) rfl ?_
                        refine mv_aload_n d_TrustDeskModel_fund_175 rfl rfl ?_
                        obtain ⟨a332, q331, t_a332⟩ := tm_atR I_268 h_q0_268 (k := 7) rfl
                        refine tr_getK q331 d_TrustDeskModel_fund_176 f_TrustDeskModel_26_13 ?_
                        refine mv_iload d_TrustDeskModel_fund_179 rfl ?_
                        have b333 : (20 + v58 : Int32).toInt = (20 + v58.toInt) := mz_add2 (by decide) rfl (by have := kKR_268.1 15 _ _ rfl; have := kKR_268.1 16 _ _ rfl; have := kKR_268.1 19 _ _ rfl; omega) (by have := kKR_268.1 15 _ _ rfl; have := kKR_268.1 16 _ _ rfl; have := kKR_268.1 19 _ _ rfl; omega)
                        have b334 : (20 * (20 + v58) : Int32).toInt = (20 * (20 + v58.toInt)) := mz_mul2 (by decide) b333 (by have := kKR_268.1 15 _ _ rfl; have := kKR_268.1 16 _ _ rfl; have := kKR_268.1 19 _ _ rfl; omega) (by have := kKR_268.1 15 _ _ rfl; have := kKR_268.1 16 _ _ rfl; have := kKR_268.1 19 _ _ rfl; omega)
                        have b335 : ((20 * (20 + v58)) + i6_268 : Int32).toInt = ((20 * (20 + v58.toInt)) + i6_268.toInt) := mz_add2 b334 rfl (by have := kKR_268.1 15 _ _ rfl; have := kKR_268.1 16 _ _ rfl; have := kKR_268.1 19 _ _ rfl; omega) (by have := kKR_268.1 15 _ _ rfl; have := kKR_268.1 16 _ _ rfl; have := kKR_268.1 19 _ _ rfl; omega)
                        refine tr_ialdR (o := o0) (k := 7) I_268 q331 t_a332 (by decide) d_TrustDeskModel_fund_181 (vp_in_iff.mpr (by have := kKR_268.1 15 _ _ rfl; have := kKR_268.1 16 _ _ rfl; have := kKR_268.1 19 _ _ rfl; omega)) (fun v336 e337 => ?_)
                        have z338 : ra M_268 o0 7 ((20 * (20 + v58)) + i6_268).toNatClampNeg = v336.toInt := e337.symm
                        have h339 : ((20 * (20 + v58)) + i6_268).toNatClampNeg = 20 * (20 + v58).toNatClampNeg + i6_268.toInt.toNat := by have := mz_nat9 (i := ((20 * (20 + v58)) + i6_268)) (by have := kKR_268.1 15 _ _ rfl; have := kKR_268.1 16 _ _ rfl; have := kKR_268.1 19 _ _ rfl; omega); have := mz_nat9 (i := (20 + v58)) (by have := kKR_268.1 15 _ _ rfl; have := kKR_268.1 16 _ _ rfl; have := kKR_268.1 19 _ _ rfl; omega); have := kKR_268.1 15 _ _ rfl; have := kKR_268.1 16 _ _ rfl; have := kKR_268.1 19 _ _ rfl; omega
                        have : v336.toInt = ra M60 o0 7 (20 * (20 + v58).toNatClampNeg + i6_268.toInt.toNat) := by have e9 := kKY_268 7 rfl; rw [← e9, e337, h339]
                        refine mv_bipush (v := 7) d_TrustDeskModel_fund_182 (by decide) ?_
                        have := mz_hi v336
                        refine mv_icmp_neZ (tgt := 204) (a := v336.toInt) (b := 7) d_TrustDeskModel_fund_184 (by decide) rfl (by decide) (fun b340 => ?_) (fun b340 => ?_)
                        · refine mv_aload_n d_TrustDeskModel_fund_204 rfl rfl ?_
                          refine tr_getK (k := 7) q331 d_TrustDeskModel_fund_205 f_TrustDeskModel_26_13 ?_
                          refine mv_iload d_TrustDeskModel_fund_208 rfl ?_
                          have b341 : (20 + v58 : Int32).toInt = (20 + v58.toInt) := mz_add2 (by decide) rfl (by have := kKR_268.1 15 _ _ rfl; have := kKR_268.1 16 _ _ rfl; have := kKR_268.1 19 _ _ rfl; omega) (by have := kKR_268.1 15 _ _ rfl; have := kKR_268.1 16 _ _ rfl; have := kKR_268.1 19 _ _ rfl; omega)
                          have b342 : (20 * (20 + v58) : Int32).toInt = (20 * (20 + v58.toInt)) := mz_mul2 (by decide) b341 (by have := kKR_268.1 15 _ _ rfl; have := kKR_268.1 16 _ _ rfl; have := kKR_268.1 19 _ _ rfl; omega) (by have := kKR_268.1 15 _ _ rfl; have := kKR_268.1 16 _ _ rfl; have := kKR_268.1 19 _ _ rfl; omega)
                          have b343 : ((20 * (20 + v58)) + i6_268 : Int32).toInt = ((20 * (20 + v58.toInt)) + i6_268.toInt) := mz_add2 b342 rfl (by have := kKR_268.1 15 _ _ rfl; have := kKR_268.1 16 _ _ rfl; have := kKR_268.1 19 _ _ rfl; omega) (by have := kKR_268.1 15 _ _ rfl; have := kKR_268.1 16 _ _ rfl; have := kKR_268.1 19 _ _ rfl; omega)
                          refine tr_ialdR (o := o0) (k := 7) I_268 q331 t_a332 (by decide) d_TrustDeskModel_fund_210 (vp_in_iff.mpr (by have := kKR_268.1 15 _ _ rfl; have := kKR_268.1 16 _ _ rfl; have := kKR_268.1 19 _ _ rfl; omega)) (fun v344 e345 => ?_)
                          have : v344.toInt = _ := Eq.trans e345 z338
                          have h346 : ((20 * (20 + v58)) + i6_268).toNatClampNeg = 20 * (20 + v58).toNatClampNeg + i6_268.toInt.toNat := by have := mz_nat9 (i := ((20 * (20 + v58)) + i6_268)) (by have := kKR_268.1 15 _ _ rfl; have := kKR_268.1 16 _ _ rfl; have := kKR_268.1 19 _ _ rfl; omega); have := mz_nat9 (i := (20 + v58)) (by have := kKR_268.1 15 _ _ rfl; have := kKR_268.1 16 _ _ rfl; have := kKR_268.1 19 _ _ rfl; omega); have := kKR_268.1 15 _ _ rfl; have := kKR_268.1 16 _ _ rfl; have := kKR_268.1 19 _ _ rfl; omega
                          have : v344.toInt = ra M60 o0 7 (20 * (20 + v58).toNatClampNeg + i6_268.toInt.toNat) := by have e9 := kKY_268 7 rfl; rw [← e9, e345, h346]
                          refine mv_bipush (v := 9) d_TrustDeskModel_fund_211 (by decide) ?_
                          have := mz_hi v344
                          refine mv_icmp_neZ (tgt := 244) (a := v344.toInt) (b := 9) d_TrustDeskModel_fund_213 (by decide) rfl (by decide) (fun b347 => ?_) (fun b347 => ?_)
                          · refine mv_aload_n d_TrustDeskModel_fund_244 rfl rfl ?_
                            refine tr_getK (k := 7) q331 d_TrustDeskModel_fund_245 f_TrustDeskModel_26_13 ?_
                            refine mv_iload d_TrustDeskModel_fund_248 rfl ?_
                            have b348 : (20 + v58 : Int32).toInt = (20 + v58.toInt) := mz_add2 (by decide) rfl (by have := kKR_268.1 15 _ _ rfl; have := kKR_268.1 16 _ _ rfl; have := kKR_268.1 19 _ _ rfl; omega) (by have := kKR_268.1 15 _ _ rfl; have := kKR_268.1 16 _ _ rfl; have := kKR_268.1 19 _ _ rfl; omega)
                            have b349 : (20 * (20 + v58) : Int32).toInt = (20 * (20 + v58.toInt)) := mz_mul2 (by decide) b348 (by have := kKR_268.1 15 _ _ rfl; have := kKR_268.1 16 _ _ rfl; have := kKR_268.1 19 _ _ rfl; omega) (by have := kKR_268.1 15 _ _ rfl; have := kKR_268.1 16 _ _ rfl; have := kKR_268.1 19 _ _ rfl; omega)
                            have b350 : ((20 * (20 + v58)) + i6_268 : Int32).toInt = ((20 * (20 + v58.toInt)) + i6_268.toInt) := mz_add2 b349 rfl (by have := kKR_268.1 15 _ _ rfl; have := kKR_268.1 16 _ _ rfl; have := kKR_268.1 19 _ _ rfl; omega) (by have := kKR_268.1 15 _ _ rfl; have := kKR_268.1 16 _ _ rfl; have := kKR_268.1 19 _ _ rfl; omega)
                            refine tr_ialdR (o := o0) (k := 7) I_268 q331 t_a332 (by decide) d_TrustDeskModel_fund_250 (vp_in_iff.mpr (by have := kKR_268.1 15 _ _ rfl; have := kKR_268.1 16 _ _ rfl; have := kKR_268.1 19 _ _ rfl; omega)) (fun v351 e352 => ?_)
                            have : v351.toInt = _ := Eq.trans e352 z338
                            have h353 : ((20 * (20 + v58)) + i6_268).toNatClampNeg = 20 * (20 + v58).toNatClampNeg + i6_268.toInt.toNat := by have := mz_nat9 (i := ((20 * (20 + v58)) + i6_268)) (by have := kKR_268.1 15 _ _ rfl; have := kKR_268.1 16 _ _ rfl; have := kKR_268.1 19 _ _ rfl; omega); have := mz_nat9 (i := (20 + v58)) (by have := kKR_268.1 15 _ _ rfl; have := kKR_268.1 16 _ _ rfl; have := kKR_268.1 19 _ _ rfl; omega); have := kKR_268.1 15 _ _ rfl; have := kKR_268.1 16 _ _ rfl; have := kKR_268.1 19 _ _ rfl; omega
                            have : v351.toInt = ra M60 o0 7 (20 * (20 + v58).toNatClampNeg + i6_268.toInt.toNat) := by have e9 := kKY_268 7 rfl; rw [← e9, e352, h353]
                            refine mv_bipush (v := 8) d_TrustDeskModel_fund_251 (by decide) ?_
                            have := mz_hi v351
                            refine mv_icmp_neZ (tgt := 268) (a := v351.toInt) (b := 8) d_TrustDeskModel_fund_253 (by decide) rfl (by decide) (fun b354 => ?_) (fun b354 => ?_)
                            · refine mv_iinc (v := (i6_268 + 1)) (lv' := [(6, .int (i6_268 + 1)), (7, .int ((20 * (20 + v58)) + i6_268)), (5, .int v58), (4, .int v67), (3, .int (20 + v58)), (0, .ref o0), (1, .int x1), (2, .int x2)]) d_TrustDeskModel_fund_268 rfl rfl (by decide) rfl ?_
                              refine mv_goto (tgt := 155) d_TrustDeskModel_fund_271 (by decide) ?_
                              have b355 : (i6_268 + 1 : Int32).toInt = (i6_268.toInt + 1) := mz_add2 rfl (by decide) (by have := kKR_268.1 15 _ _ rfl; have := kKR_268.1 16 _ _ rfl; have := kKR_268.1 19 _ _ rfl; omega) (by have := kKR_268.1 15 _ _ rfl; have := kKR_268.1 16 _ _ rfl; have := kKR_268.1 19 _ _ rfl; omega)
                              refine mv_locals (lv' := [(6, .int (i6_268 + 1)), (5, .int v58), (4, .int v67), (3, .int (20 + v58)), (0, .ref o0), (1, .int x1), (2, .int x2)]) (by intro q hq; simp only [List.mem_cons, List.not_mem_nil, or_false] at hq; rcases hq with rfl | rfl | rfl | rfl | rfl | rfl | rfl <;> rfl) ?_
                              have b356 : (i6_268 + 1).toInt = i6_268.toInt + 1 := mz_addn 1 1 (by decide) (by have := mz_lo i6_268; omega) (by have := mz_hi i6_268; omega)
                              exact (ih268 (i6_268 + 1) T_268 M_268 n_268 I_268 h_q0_268 (by have := kKR_268.1 15 _ _ rfl; have := kKR_268.1 16 _ _ rfl; have := kKR_268.1 19 _ _ rfl; first | omega | decide | exact fun h9 => absurd (by decide) h9) (by have := kKR_268.1 15 _ _ rfl; have := kKR_268.1 16 _ _ rfl; have := kKR_268.1 19 _ _ rfl; first | omega | decide | exact fun h9 => absurd (by decide) h9) (by have := kKR_268.1 15 _ _ rfl; have := kKR_268.1 16 _ _ rfl; have := kKR_268.1 19 _ _ rfl; first | omega | decide | exact fun h9 => absurd (by decide) h9) (by have := kKR_268.1 15 _ _ rfl; have := kKR_268.1 16 _ _ rfl; have := kKR_268.1 19 _ _ rfl; first | omega | decide | exact fun h9 => absurd (by decide) h9) (by have := kKR_268.1 15 _ _ rfl; have := kKR_268.1 16 _ _ rfl; have := kKR_268.1 19 _ _ rfl; first | omega | decide | exact fun h9 => absurd (by decide) h9) (by have := kKR_268.1 15 _ _ rfl; have := kKR_268.1 16 _ _ rfl; have := kKR_268.1 19 _ _ rfl; first | omega | decide | exact fun h9 => absurd (by decide) h9) (by have := kKR_268.1 15 _ _ rfl; have := kKR_268.1 16 _ _ rfl; have := kKR_268.1 19 _ _ rfl; first | omega | decide | exact fun h9 => absurd (by decide) h9) (by rw [show (i6_268 + 1 : Int32).toInt.toNat = i6_268.toInt.toNat + 1 from by omega]; have := kKR_268.1 15 _ _ rfl; have := kKR_268.1 16 _ _ rfl; have := kKR_268.1 19 _ _ rfl; omega) (by have := kKR_268.1 15 _ _ rfl; have := kKR_268.1 16 _ _ rfl; have := kKR_268.1 19 _ _ rfl; first | omega | decide | exact fun h9 => absurd (by decide) h9) kKR_268 kKP_268 kKB_268 kKY_268 kKC_268 (by have := kKR_268.1 15 _ _ rfl; have := kKR_268.1 16 _ _ rfl; have := kKR_268.1 19 _ _ rfl; omega))
                            · refine mv_aload_n d_TrustDeskModel_fund_256 rfl rfl ?_
                              refine mv_iload d_TrustDeskModel_fund_257 rfl ?_
                              refine mv_iload_n d_TrustDeskModel_fund_259 rfl rfl ?_
                              refine mv_iload d_TrustDeskModel_fund_260 rfl ?_
                              refine mv_iconst (v := 0) d_TrustDeskModel_fund_262 (by decide) ?_
                              refine mv_iconst (v := 0) d_TrustDeskModel_fund_263 (by decide) ?_
                              refine mv_iconst (v := (-1)) d_TrustDeskModel_fund_264 (by decide) ?_
                              obtain ⟨_, b363, -⟩ := I_268.1 _ _ h_q0_268
                              have b364 : (20 + v58 : Int32).toInt = (20 + v58.toInt) := mz_add2 (by decide) rfl (by have := kKR_268.1 15 _ _ rfl; have := kKR_268.1 16 _ _ rfl; have := kKR_268.1 19 _ _ rfl; omega) (by have := kKR_268.1 15 _ _ rfl; have := kKR_268.1 16 _ _ rfl; have := kKR_268.1 19 _ _ rfl; omega)
                              have b365 : (20 + v58 : Int32).toInt = (20 + v58.toInt) := mz_add2 (by decide) rfl (by have := kKR_268.1 15 _ _ rfl; have := kKR_268.1 16 _ _ rfl; have := kKR_268.1 19 _ _ rfl; omega) (by have := kKR_268.1 15 _ _ rfl; have := kKR_268.1 16 _ _ rfl; have := kKR_268.1 19 _ _ rfl; omega)
                              have b366 : (20 * (20 + v58) : Int32).toInt = (20 * (20 + v58.toInt)) := mz_mul2 (by decide) b365 (by have := kKR_268.1 15 _ _ rfl; have := kKR_268.1 16 _ _ rfl; have := kKR_268.1 19 _ _ rfl; omega) (by have := kKR_268.1 15 _ _ rfl; have := kKR_268.1 16 _ _ rfl; have := kKR_268.1 19 _ _ rfl; omega)
                              have b367 : ((20 * (20 + v58)) + i6_268 : Int32).toInt = ((20 * (20 + v58.toInt)) + i6_268.toInt) := mz_add2 b366 rfl (by have := kKR_268.1 15 _ _ rfl; have := kKR_268.1 16 _ _ rfl; have := kKR_268.1 19 _ _ rfl; omega) (by have := kKR_268.1 15 _ _ rfl; have := kKR_268.1 16 _ _ rfl; have := kKR_268.1 19 _ _ rfl; omega)
                              have : (0 : Int32).toInt = 0 := by decide
                              have : (0 : Int32).toInt = 0 := by decide
                              have : ((-1) : Int32).toInt = (-1) := by decide
                              refine mv_callV (kc' := 0) (ks' := 0) (As := [.int v58, .int (20 + v58), .int ((20 * (20 + v58)) + i6_268), .int 0, .int 0, .int (-1)]) (st9 := [.int (-1), .int 0, .int 0, .int ((20 * (20 + v58)) + i6_268), .int (20 + v58), .int v58, .ref o0]) d_TrustDeskModel_fund_265 lV_TrustDeskModel_428 b363 rfl (tc_TrustDeskModel_addEnd_x (d := (d + 26)) (x9 := x9) (o0 := o0) (x1 := v58) (x2 := (20 + v58)) (x3 := ((20 * (20 + v58)) + i6_268)) (x4 := 0) (x5 := 0) (x6 := (-1)) h_q0_268 (by have := kKR_268.1 15 _ _ rfl; have := kKR_268.1 16 _ _ rfl; have := kKR_268.1 19 _ _ rfl; omega) (by have := kKR_268.1 15 _ _ rfl; have := kKR_268.1 16 _ _ rfl; have := kKR_268.1 19 _ _ rfl; omega) (by have := kKR_268.1 15 _ _ rfl; have := kKR_268.1 16 _ _ rfl; have := kKR_268.1 19 _ _ rfl; omega) kKR_268 (by have := kKR_268.1 15 _ _ rfl; have := kKR_268.1 16 _ _ rfl; have := kKR_268.1 19 _ _ rfl; omega) I_268.start) rfl (Nat.le_of_ble_eq_true rfl) (Nat.le_of_ble_eq_true rfl) (Nat.le_of_ble_eq_true rfl) (hst := rfl) (fun b357r M358 n359 b357 => ?_)
                              obtain ⟨T360, J361, rfl, R368, f369⟩ := b357
                              have I362 := I_268.call J361 (tm_sub (by decide)) (Or.inl rfl)
                              have t370 := J361.up h_q0_268
                              have z371 := (rv_c I_268 J361 (I_268.up h_o0) (k := 15) rfl)
                              have z372 := (rv_c I_268 J361 (I_268.up h_o0) (k := 16) rfl)
                              have z373 := (rv_c I_268 J361 (I_268.up h_o0) (k := 17) rfl)
                              have z374 := (rv_c I_268 J361 (I_268.up h_o0) (k := 19) rfl)
                              have z375 := (rv_c I_268 J361 (I_268.up h_o0) (k := 22) rfl)
                              have z376 := (rv_c I_268 J361 (I_268.up h_o0) (k := 24) rfl)
                              have z377 := (rv_c I_268 J361 (I_268.up h_o0) (k := 27) rfl)
                              have z378 := (rv_c I_268 J361 (I_268.up h_o0) (k := 32) rfl)
                              have z379 := (rv_c I_268 J361 (I_268.up h_o0) (k := 49) rfl)
                              have z380 := (ra_call I_268 J361 (I_268.up h_o0) (k := 5) rfl rfl rfl 44)
                              have z381 := (ra_call I_268 J361 (I_268.up h_o0) (k := 6) rfl rfl rfl 44)
                              have z382 := (ra_call I_268 J361 (I_268.up h_o0) (k := 6) rfl rfl rfl ((20 + v58).toNatClampNeg))
                              have z383 := (ra_call I_268 J361 (I_268.up h_o0) (k := 37) rfl rfl rfl v58.toNatClampNeg)
                              have z384 := (ra_call I_268 J361 (I_268.up h_o0) (k := 7) rfl rfl rfl (((20 * (20 + v58)) + i6_268).toNatClampNeg)).trans z338
                              have K385 : rP M358 o0 := kKP_268.same (sA_c I_268 J361 (I_268.up h_o0) (by decide +kernel)) (sF_c I_268 J361 (I_268.up h_o0) (by decide +kernel))
                              have K386 : rB M358 o0 v58.toNatClampNeg := kKB_268.add f369 (sA_c I_268 J361 (I_268.up h_o0) (by decide)) (sF_c I_268 J361 (I_268.up h_o0) (by decide)) (by have := mz_nat9 (i := v58) (by have := kKR_268.1 15 _ _ rfl; have := kKR_268.1 16 _ _ rfl; have := kKR_268.1 19 _ _ rfl; omega); have := kKR_268.1 15 _ _ rfl; have := kKR_268.1 16 _ _ rfl; have := kKR_268.1 19 _ _ rfl; omega)
                              have K387 : sA [7] M60 M358 o0 := kKY_268.trans (sA_c I_268 J361 (I_268.up h_o0) (by decide +kernel))
                              have K388 : rC M358 o0 ((20 + v58).toNatClampNeg) := kKC_268.add kKR_268 f369 (by have := mz_nat9 (i := v58) (by have := kKR_268.1 15 _ _ rfl; have := kKR_268.1 16 _ _ rfl; have := kKR_268.1 19 _ _ rfl; omega); have := kKR_268.1 15 _ _ rfl; have := kKR_268.1 16 _ _ rfl; have := kKR_268.1 19 _ _ rfl; omega) i6_268.toInt.toNat (by have := kKR_268.1 15 _ _ rfl; have := kKR_268.1 16 _ _ rfl; have := kKR_268.1 19 _ _ rfl; omega) (by have := mz_nat9 (i := i6_268) (by have := kKR_268.1 15 _ _ rfl; have := kKR_268.1 16 _ _ rfl; have := kKR_268.1 19 _ _ rfl; omega); have := kKR_268.1 15 _ _ rfl; have := kKR_268.1 16 _ _ rfl; have := kKR_268.1 19 _ _ rfl; omega) (by rw [show ((20 * (20 + v58)) + i6_268).toInt.toNat = ((20 * (20 + v58)) + i6_268).toNatClampNeg from by have := mz_nat9 (i := ((20 * (20 + v58)) + i6_268)) (by have := kKR_268.1 15 _ _ rfl; have := kKR_268.1 16 _ _ rfl; have := kKR_268.1 19 _ _ rfl; omega); have := kKR_268.1 15 _ _ rfl; have := kKR_268.1 16 _ _ rfl; have := kKR_268.1 19 _ _ rfl; omega]; omega) (sA_c I_268 J361 (I_268.up h_o0) (by decide)) (sF_c I_268 J361 (I_268.up h_o0) (by decide))
                              have := f369.2.2 v58.toNatClampNeg
                              rw [if_pos rfl] at this
                              clear z338
                              have q389 := J361.keep h_q0_268 (by decide) q269
                              have t390 := J361.up t_a270
                              have q391 := J361.keep h_q0_268 (by decide) q331
                              have t392 := J361.up t_a332
                              refine mv_iinc (v := (i6_268 + 1)) (lv' := [(6, .int (i6_268 + 1)), (7, .int ((20 * (20 + v58)) + i6_268)), (5, .int v58), (4, .int v67), (3, .int (20 + v58)), (0, .ref o0), (1, .int x1), (2, .int x2)]) d_TrustDeskModel_fund_268 rfl rfl (by decide) rfl ?_
                              refine mv_goto (tgt := 155) d_TrustDeskModel_fund_271 (by decide) ?_
                              have b393 : (i6_268 + 1 : Int32).toInt = (i6_268.toInt + 1) := mz_add2 rfl (by decide) (by have := R368.1 15 _ _ rfl; have := R368.1 16 _ _ rfl; have := R368.1 19 _ _ rfl; omega) (by have := R368.1 15 _ _ rfl; have := R368.1 16 _ _ rfl; have := R368.1 19 _ _ rfl; omega)
                              refine mv_locals (lv' := [(6, .int (i6_268 + 1)), (5, .int v58), (4, .int v67), (3, .int (20 + v58)), (0, .ref o0), (1, .int x1), (2, .int x2)]) (by intro q hq; simp only [List.mem_cons, List.not_mem_nil, or_false] at hq; rcases hq with rfl | rfl | rfl | rfl | rfl | rfl | rfl <;> rfl) ?_
                              have b394 : (i6_268 + 1).toInt = i6_268.toInt + 1 := mz_addn 1 1 (by decide) (by have := mz_lo i6_268; omega) (by have := mz_hi i6_268; omega)
                              exact (ih268 (i6_268 + 1) T360 M358 n359 I362 t370 (by have := R368.1 15 _ _ rfl; have := R368.1 16 _ _ rfl; have := R368.1 19 _ _ rfl; first | omega | decide | exact fun h9 => absurd (by decide) h9) (by have := R368.1 15 _ _ rfl; have := R368.1 16 _ _ rfl; have := R368.1 19 _ _ rfl; first | omega | decide | exact fun h9 => absurd (by decide) h9) (by have := R368.1 15 _ _ rfl; have := R368.1 16 _ _ rfl; have := R368.1 19 _ _ rfl; first | omega | decide | exact fun h9 => absurd (by decide) h9) (by have := R368.1 15 _ _ rfl; have := R368.1 16 _ _ rfl; have := R368.1 19 _ _ rfl; first | omega | decide | exact fun h9 => absurd (by decide) h9) (by have := R368.1 15 _ _ rfl; have := R368.1 16 _ _ rfl; have := R368.1 19 _ _ rfl; first | omega | decide | exact fun h9 => absurd (by decide) h9) (by have := R368.1 15 _ _ rfl; have := R368.1 16 _ _ rfl; have := R368.1 19 _ _ rfl; first | omega | decide | exact fun h9 => absurd (by decide) h9) (by have := R368.1 15 _ _ rfl; have := R368.1 16 _ _ rfl; have := R368.1 19 _ _ rfl; first | omega | decide | exact fun h9 => absurd (by decide) h9) (by rw [show (i6_268 + 1 : Int32).toInt.toNat = i6_268.toInt.toNat + 1 from by omega]; have := R368.1 15 _ _ rfl; have := R368.1 16 _ _ rfl; have := R368.1 19 _ _ rfl; omega) (by have := R368.1 15 _ _ rfl; have := R368.1 16 _ _ rfl; have := R368.1 19 _ _ rfl; first | omega | decide | exact fun h9 => absurd (by decide) h9) R368 K385 K386 K387 K388 (by have := R368.1 15 _ _ rfl; have := R368.1 16 _ _ rfl; have := R368.1 19 _ _ rfl; omega))
                          · refine mv_aload_n d_TrustDeskModel_fund_216 rfl rfl ?_
                            obtain ⟨a396, q395, t_a396⟩ := tm_atR I_268 h_q0_268 (k := 38) rfl
                            refine tr_getK q395 d_TrustDeskModel_fund_217 f_TrustDeskModel_82_13 ?_
                            refine mv_iload d_TrustDeskModel_fund_220 rfl ?_
                            refine mv_aload_n d_TrustDeskModel_fund_222 rfl rfl ?_
                            obtain ⟨a398, q397, t_a398⟩ := tm_atR I_268 h_q0_268 (k := 8) rfl
                            refine tr_getK q397 d_TrustDeskModel_fund_223 f_TrustDeskModel_29_13 ?_
                            refine mv_iload d_TrustDeskModel_fund_226 rfl ?_
                            have b399 : (20 + v58 : Int32).toInt = (20 + v58.toInt) := mz_add2 (by decide) rfl (by have := kKR_268.1 15 _ _ rfl; have := kKR_268.1 16 _ _ rfl; have := kKR_268.1 19 _ _ rfl; omega) (by have := kKR_268.1 15 _ _ rfl; have := kKR_268.1 16 _ _ rfl; have := kKR_268.1 19 _ _ rfl; omega)
                            have b400 : (20 * (20 + v58) : Int32).toInt = (20 * (20 + v58.toInt)) := mz_mul2 (by decide) b399 (by have := kKR_268.1 15 _ _ rfl; have := kKR_268.1 16 _ _ rfl; have := kKR_268.1 19 _ _ rfl; omega) (by have := kKR_268.1 15 _ _ rfl; have := kKR_268.1 16 _ _ rfl; have := kKR_268.1 19 _ _ rfl; omega)
                            have b401 : ((20 * (20 + v58)) + i6_268 : Int32).toInt = ((20 * (20 + v58.toInt)) + i6_268.toInt) := mz_add2 b400 rfl (by have := kKR_268.1 15 _ _ rfl; have := kKR_268.1 16 _ _ rfl; have := kKR_268.1 19 _ _ rfl; omega) (by have := kKR_268.1 15 _ _ rfl; have := kKR_268.1 16 _ _ rfl; have := kKR_268.1 19 _ _ rfl; omega)
                            refine tr_ialdR (o := o0) (k := 8) I_268 q397 t_a398 (by decide) d_TrustDeskModel_fund_228 (vp_in_iff.mpr (by have := kKR_268.1 15 _ _ rfl; have := kKR_268.1 16 _ _ rfl; have := kKR_268.1 19 _ _ rfl; omega)) (fun v402 e403 => ?_)
                            have := kKR_268.a (k := 8) rfl (((20 * (20 + v58)) + i6_268) : Int32).toNatClampNeg
                            refine tr_iastR (k := 38) I_268 kKR_268 (I_268.up h_o0) q395 t_a396 (by decide) (by decide) (fun lo hi h => by cases h) (Or.inl (by decide)) d_TrustDeskModel_fund_229 (vp_in_iff.mpr (by have := kKR_268.1 15 _ _ rfl; have := kKR_268.1 16 _ _ rfl; have := kKR_268.1 19 _ _ rfl; omega)) (fun M404 I405 K406 R407 E408 A409 V410 => ?_)
                            have z411 := (V410 15)
                            have z412 := (V410 16)
                            have z413 := (V410 17)
                            have z414 := (V410 19)
                            have z415 := (V410 22)
                            have z416 := (V410 24)
                            have z417 := (V410 27)
                            have z418 := (V410 32)
                            have z419 := (V410 49)
                            have z420 := (A409 5 (by decide) rfl 44)
                            have z421 := (A409 6 (by decide) rfl 44)
                            have z422 := (A409 6 (by decide) rfl ((20 + v58).toNatClampNeg))
                            have z423 := (A409 43 (by decide) rfl v58.toNatClampNeg)
                            have z424 := (A409 37 (by decide) rfl v58.toNatClampNeg)
                            have z425 := (A409 7 (by decide) rfl (((20 * (20 + v58)) + i6_268).toNatClampNeg)).trans z338
                            have K426 : rP M404 o0 := kKP_268.same (sA_a A409 (by decide +kernel)) (sF_a V410)
                            have K427 : rB M404 o0 v58.toNatClampNeg := kKB_268.same (sA_a A409 (by decide +kernel)) (sF_a V410)
                            have K428 : sA [7] M60 M404 o0 := kKY_268.trans (sA_a A409 (by decide +kernel))
                            have K429 : rC M404 o0 ((20 + v58).toNatClampNeg) := kKC_268.same (sA_a A409 (by decide +kernel)) (sF_a V410)
                            clear z338
                            refine mv_aload_n d_TrustDeskModel_fund_230 rfl rfl ?_
                            obtain ⟨a431, q430, t_a431⟩ := tm_atR I405 h_q0_268 (k := 39) rfl
                            refine tr_getK q430 d_TrustDeskModel_fund_231 f_TrustDeskModel_85_13 ?_
                            refine mv_iload d_TrustDeskModel_fund_234 rfl ?_
                            refine mv_aload_n d_TrustDeskModel_fund_236 rfl rfl ?_
                            obtain ⟨a433, q432, t_a433⟩ := tm_atR I405 h_q0_268 (k := 9) rfl
                            refine tr_getK q432 d_TrustDeskModel_fund_237 f_TrustDeskModel_32_13 ?_
                            refine mv_iload d_TrustDeskModel_fund_240 rfl ?_
                            have b434 : (20 + v58 : Int32).toInt = (20 + v58.toInt) := mz_add2 (by decide) rfl (by have := R407.1 15 _ _ rfl; have := R407.1 16 _ _ rfl; have := R407.1 19 _ _ rfl; omega) (by have := R407.1 15 _ _ rfl; have := R407.1 16 _ _ rfl; have := R407.1 19 _ _ rfl; omega)
                            have b435 : (20 * (20 + v58) : Int32).toInt = (20 * (20 + v58.toInt)) := mz_mul2 (by decide) b434 (by have := R407.1 15 _ _ rfl; have := R407.1 16 _ _ rfl; have := R407.1 19 _ _ rfl; omega) (by have := R407.1 15 _ _ rfl; have := R407.1 16 _ _ rfl; have := R407.1 19 _ _ rfl; omega)
                            have b436 : ((20 * (20 + v58)) + i6_268 : Int32).toInt = ((20 * (20 + v58.toInt)) + i6_268.toInt) := mz_add2 b435 rfl (by have := R407.1 15 _ _ rfl; have := R407.1 16 _ _ rfl; have := R407.1 19 _ _ rfl; omega) (by have := R407.1 15 _ _ rfl; have := R407.1 16 _ _ rfl; have := R407.1 19 _ _ rfl; omega)
                            refine tr_ialdR (o := o0) (k := 9) I405 q432 t_a433 (by decide) d_TrustDeskModel_fund_242 (vp_in_iff.mpr (by have := R407.1 15 _ _ rfl; have := R407.1 16 _ _ rfl; have := R407.1 19 _ _ rfl; omega)) (fun v437 e438 => ?_)
                            refine tr_iastR (k := 39) I405 R407 (I405.up h_o0) q430 t_a431 (by decide) (by decide) (fun lo hi h => by cases h) (Or.inl (by decide)) d_TrustDeskModel_fund_243 (vp_in_iff.mpr (by have := R407.1 15 _ _ rfl; have := R407.1 16 _ _ rfl; have := R407.1 19 _ _ rfl; omega)) (fun M439 I440 K441 R442 E443 A444 V445 => ?_)
                            have z446 := (V445 15).trans z411
                            have z447 := (V445 16).trans z412
                            have z448 := (V445 17).trans z413
                            have z449 := (V445 19).trans z414
                            have z450 := (V445 22).trans z415
                            have z451 := (V445 24).trans z416
                            have z452 := (V445 27).trans z417
                            have z453 := (V445 32).trans z418
                            have z454 := (V445 49).trans z419
                            have z455 := (A444 5 (by decide) rfl 44).trans z420
                            have z456 := (A444 6 (by decide) rfl 44).trans z421
                            have z457 := (A444 6 (by decide) rfl ((20 + v58).toNatClampNeg)).trans z422
                            have z458 := (A444 43 (by decide) rfl v58.toNatClampNeg).trans z423
                            have z459 := (A444 37 (by decide) rfl v58.toNatClampNeg).trans z424
                            have z460 := (A444 7 (by decide) rfl (((20 * (20 + v58)) + i6_268).toNatClampNeg)).trans z425
                            have K461 : rP M439 o0 := K426.same (sA_a A444 (by decide +kernel)) (sF_a V445)
                            have K462 : rB M439 o0 v58.toNatClampNeg := K427.same (sA_a A444 (by decide +kernel)) (sF_a V445)
                            have K463 : sA [7] M60 M439 o0 := K428.trans (sA_a A444 (by decide +kernel))
                            have K464 : rC M439 o0 ((20 + v58).toNatClampNeg) := K429.same (sA_a A444 (by decide +kernel)) (sF_a V445)
                            clear z411 z412 z413 z415 z416 z417 z418 z419 z420 z421 z422 z423 z424 z425
                            refine mv_aload_n d_TrustDeskModel_fund_244 rfl rfl ?_
                            refine tr_getK (k := 7) (K441 _ 13 7 _ (K406 _ 13 7 _ q331)) d_TrustDeskModel_fund_245 f_TrustDeskModel_26_13 ?_
                            refine mv_iload d_TrustDeskModel_fund_248 rfl ?_
                            have b465 : (20 + v58 : Int32).toInt = (20 + v58.toInt) := mz_add2 (by decide) rfl (by have := R442.1 15 _ _ rfl; have := R442.1 16 _ _ rfl; have := R442.1 19 _ _ rfl; omega) (by have := R442.1 15 _ _ rfl; have := R442.1 16 _ _ rfl; have := R442.1 19 _ _ rfl; omega)
                            have b466 : (20 * (20 + v58) : Int32).toInt = (20 * (20 + v58.toInt)) := mz_mul2 (by decide) b465 (by have := R442.1 15 _ _ rfl; have := R442.1 16 _ _ rfl; have := R442.1 19 _ _ rfl; omega) (by have := R442.1 15 _ _ rfl; have := R442.1 16 _ _ rfl; have := R442.1 19 _ _ rfl; omega)
                            have b467 : ((20 * (20 + v58)) + i6_268 : Int32).toInt = ((20 * (20 + v58.toInt)) + i6_268.toInt) := mz_add2 b466 rfl (by have := R442.1 15 _ _ rfl; have := R442.1 16 _ _ rfl; have := R442.1 19 _ _ rfl; omega) (by have := R442.1 15 _ _ rfl; have := R442.1 16 _ _ rfl; have := R442.1 19 _ _ rfl; omega)
                            refine tr_ialdR (o := o0) (k := 7) I440 (K441 _ 13 7 _ (K406 _ 13 7 _ q331)) t_a332 (by decide) d_TrustDeskModel_fund_250 (vp_in_iff.mpr (by have := R442.1 15 _ _ rfl; have := R442.1 16 _ _ rfl; have := R442.1 19 _ _ rfl; omega)) (fun v468 e469 => ?_)
                            have : v468.toInt = _ := Eq.trans e469 z460
                            have h470 : ((20 * (20 + v58)) + i6_268).toNatClampNeg = 20 * (20 + v58).toNatClampNeg + i6_268.toInt.toNat := by have := mz_nat9 (i := ((20 * (20 + v58)) + i6_268)) (by have := R442.1 15 _ _ rfl; have := R442.1 16 _ _ rfl; have := R442.1 19 _ _ rfl; omega); have := mz_nat9 (i := (20 + v58)) (by have := R442.1 15 _ _ rfl; have := R442.1 16 _ _ rfl; have := R442.1 19 _ _ rfl; omega); have := R442.1 15 _ _ rfl; have := R442.1 16 _ _ rfl; have := R442.1 19 _ _ rfl; omega
                            have : v468.toInt = ra M60 o0 7 (20 * (20 + v58).toNatClampNeg + i6_268.toInt.toNat) := by have e9 := K463 7 rfl; rw [← e9, e469, h470]
                            refine mv_bipush (v := 8) d_TrustDeskModel_fund_251 (by decide) ?_
                            have := mz_hi v468
                            refine mv_icmp_neZ (tgt := 268) (a := v468.toInt) (b := 8) d_TrustDeskModel_fund_253 (by decide) rfl (by decide) (fun b471 => ?_) (fun b471 => ?_)
                            · refine mv_iinc (v := (i6_268 + 1)) (lv' := [(6, .int (i6_268 + 1)), (7, .int ((20 * (20 + v58)) + i6_268)), (5, .int v58), (4, .int v67), (3, .int (20 + v58)), (0, .ref o0), (1, .int x1), (2, .int x2)]) d_TrustDeskModel_fund_268 rfl rfl (by decide) rfl ?_
                              refine mv_goto (tgt := 155) d_TrustDeskModel_fund_271 (by decide) ?_
                              have b472 : (i6_268 + 1 : Int32).toInt = (i6_268.toInt + 1) := mz_add2 rfl (by decide) (by have := R442.1 15 _ _ rfl; have := R442.1 16 _ _ rfl; have := R442.1 19 _ _ rfl; omega) (by have := R442.1 15 _ _ rfl; have := R442.1 16 _ _ rfl; have := R442.1 19 _ _ rfl; omega)
                              refine mv_locals (lv' := [(6, .int (i6_268 + 1)), (5, .int v58), (4, .int v67), (3, .int (20 + v58)), (0, .ref o0), (1, .int x1), (2, .int x2)]) (by intro q hq; simp only [List.mem_cons, List.not_mem_nil, or_false] at hq; rcases hq with rfl | rfl | rfl | rfl | rfl | rfl | rfl <;> rfl) ?_
                              have b473 : (i6_268 + 1).toInt = i6_268.toInt + 1 := mz_addn 1 1 (by decide) (by have := mz_lo i6_268; omega) (by have := mz_hi i6_268; omega)
                              exact (ih268 (i6_268 + 1) T_268 M439 n_268 I440 h_q0_268 (by have := R442.1 15 _ _ rfl; have := R442.1 16 _ _ rfl; have := R442.1 19 _ _ rfl; first | omega | decide | exact fun h9 => absurd (by decide) h9) (by have := R442.1 15 _ _ rfl; have := R442.1 16 _ _ rfl; have := R442.1 19 _ _ rfl; first | omega | decide | exact fun h9 => absurd (by decide) h9) (by have := R442.1 15 _ _ rfl; have := R442.1 16 _ _ rfl; have := R442.1 19 _ _ rfl; first | omega | decide | exact fun h9 => absurd (by decide) h9) (by have := R442.1 15 _ _ rfl; have := R442.1 16 _ _ rfl; have := R442.1 19 _ _ rfl; first | omega | decide | exact fun h9 => absurd (by decide) h9) (by have := R442.1 15 _ _ rfl; have := R442.1 16 _ _ rfl; have := R442.1 19 _ _ rfl; first | omega | decide | exact fun h9 => absurd (by decide) h9) (by have := R442.1 15 _ _ rfl; have := R442.1 16 _ _ rfl; have := R442.1 19 _ _ rfl; first | omega | decide | exact fun h9 => absurd (by decide) h9) (by have := R442.1 15 _ _ rfl; have := R442.1 16 _ _ rfl; have := R442.1 19 _ _ rfl; first | omega | decide | exact fun h9 => absurd (by decide) h9) (by rw [show (i6_268 + 1 : Int32).toInt.toNat = i6_268.toInt.toNat + 1 from by omega]; have := R442.1 15 _ _ rfl; have := R442.1 16 _ _ rfl; have := R442.1 19 _ _ rfl; omega) (by have := R442.1 15 _ _ rfl; have := R442.1 16 _ _ rfl; have := R442.1 19 _ _ rfl; first | omega | decide | exact fun h9 => absurd (by decide) h9) R442 K461 K462 K463 K464 (by have := R442.1 15 _ _ rfl; have := R442.1 16 _ _ rfl; have := R442.1 19 _ _ rfl; omega))
                            · refine mv_aload_n d_TrustDeskModel_fund_256 rfl rfl ?_
                              refine mv_iload d_TrustDeskModel_fund_257 rfl ?_
                              refine mv_iload_n d_TrustDeskModel_fund_259 rfl rfl ?_
                              refine mv_iload d_TrustDeskModel_fund_260 rfl ?_
                              refine mv_iconst (v := 0) d_TrustDeskModel_fund_262 (by decide) ?_
                              refine mv_iconst (v := 0) d_TrustDeskModel_fund_263 (by decide) ?_
                              refine mv_iconst (v := (-1)) d_TrustDeskModel_fund_264 (by decide) ?_
                              obtain ⟨_, b480, -⟩ := I440.1 _ _ h_q0_268
                              have b481 : (20 + v58 : Int32).toInt = (20 + v58.toInt) := mz_add2 (by decide) rfl (by have := R442.1 15 _ _ rfl; have := R442.1 16 _ _ rfl; have := R442.1 19 _ _ rfl; omega) (by have := R442.1 15 _ _ rfl; have := R442.1 16 _ _ rfl; have := R442.1 19 _ _ rfl; omega)
                              have b482 : (20 + v58 : Int32).toInt = (20 + v58.toInt) := mz_add2 (by decide) rfl (by have := R442.1 15 _ _ rfl; have := R442.1 16 _ _ rfl; have := R442.1 19 _ _ rfl; omega) (by have := R442.1 15 _ _ rfl; have := R442.1 16 _ _ rfl; have := R442.1 19 _ _ rfl; omega)
                              have b483 : (20 * (20 + v58) : Int32).toInt = (20 * (20 + v58.toInt)) := mz_mul2 (by decide) b482 (by have := R442.1 15 _ _ rfl; have := R442.1 16 _ _ rfl; have := R442.1 19 _ _ rfl; omega) (by have := R442.1 15 _ _ rfl; have := R442.1 16 _ _ rfl; have := R442.1 19 _ _ rfl; omega)
                              have b484 : ((20 * (20 + v58)) + i6_268 : Int32).toInt = ((20 * (20 + v58.toInt)) + i6_268.toInt) := mz_add2 b483 rfl (by have := R442.1 15 _ _ rfl; have := R442.1 16 _ _ rfl; have := R442.1 19 _ _ rfl; omega) (by have := R442.1 15 _ _ rfl; have := R442.1 16 _ _ rfl; have := R442.1 19 _ _ rfl; omega)
                              have : (0 : Int32).toInt = 0 := by decide
                              have : (0 : Int32).toInt = 0 := by decide
                              have : ((-1) : Int32).toInt = (-1) := by decide
                              refine mv_callV (kc' := 0) (ks' := 0) (As := [.int v58, .int (20 + v58), .int ((20 * (20 + v58)) + i6_268), .int 0, .int 0, .int (-1)]) (st9 := [.int (-1), .int 0, .int 0, .int ((20 * (20 + v58)) + i6_268), .int (20 + v58), .int v58, .ref o0]) d_TrustDeskModel_fund_265 lV_TrustDeskModel_428 b480 rfl (tc_TrustDeskModel_addEnd_x (d := (d + 26)) (x9 := x9) (o0 := o0) (x1 := v58) (x2 := (20 + v58)) (x3 := ((20 * (20 + v58)) + i6_268)) (x4 := 0) (x5 := 0) (x6 := (-1)) h_q0_268 (by have := R442.1 15 _ _ rfl; have := R442.1 16 _ _ rfl; have := R442.1 19 _ _ rfl; omega) (by have := R442.1 15 _ _ rfl; have := R442.1 16 _ _ rfl; have := R442.1 19 _ _ rfl; omega) (by have := R442.1 15 _ _ rfl; have := R442.1 16 _ _ rfl; have := R442.1 19 _ _ rfl; omega) R442 (by have := R442.1 15 _ _ rfl; have := R442.1 16 _ _ rfl; have := R442.1 19 _ _ rfl; omega) I440.start) rfl (Nat.le_of_ble_eq_true rfl) (Nat.le_of_ble_eq_true rfl) (Nat.le_of_ble_eq_true rfl) (hst := rfl) (fun b474r M475 n476 b474 => ?_)
                              obtain ⟨T477, J478, rfl, R485, f486⟩ := b474
                              have I479 := I440.call J478 (tm_sub (by decide)) (Or.inl rfl)
                              have t487 := J478.up h_q0_268
                              have z488 := (rv_c I440 J478 (I440.up h_o0) (k := 15) rfl).trans z446
                              have z489 := (rv_c I440 J478 (I440.up h_o0) (k := 16) rfl).trans z447
                              have z490 := (rv_c I440 J478 (I440.up h_o0) (k := 17) rfl).trans z448
                              have z491 := (rv_c I440 J478 (I440.up h_o0) (k := 19) rfl).trans z449
                              have z492 := (rv_c I440 J478 (I440.up h_o0) (k := 22) rfl).trans z450
                              have z493 := (rv_c I440 J478 (I440.up h_o0) (k := 24) rfl).trans z451
                              have z494 := (rv_c I440 J478 (I440.up h_o0) (k := 27) rfl).trans z452
                              have z495 := (rv_c I440 J478 (I440.up h_o0) (k := 32) rfl).trans z453
                              have z496 := (rv_c I440 J478 (I440.up h_o0) (k := 49) rfl).trans z454
                              have z497 := (ra_call I440 J478 (I440.up h_o0) (k := 5) rfl rfl rfl 44).trans z455
                              have z498 := (ra_call I440 J478 (I440.up h_o0) (k := 6) rfl rfl rfl 44).trans z456
                              have z499 := (ra_call I440 J478 (I440.up h_o0) (k := 6) rfl rfl rfl ((20 + v58).toNatClampNeg)).trans z457
                              have z500 := (ra_call I440 J478 (I440.up h_o0) (k := 37) rfl rfl rfl v58.toNatClampNeg).trans z459
                              have z501 := (ra_call I440 J478 (I440.up h_o0) (k := 7) rfl rfl rfl (((20 * (20 + v58)) + i6_268).toNatClampNeg)).trans z460
                              have K502 : rP M475 o0 := K461.same (sA_c I440 J478 (I440.up h_o0) (by decide +kernel)) (sF_c I440 J478 (I440.up h_o0) (by decide +kernel))
                              have K503 : rB M475 o0 v58.toNatClampNeg := K462.add f486 (sA_c I440 J478 (I440.up h_o0) (by decide)) (sF_c I440 J478 (I440.up h_o0) (by decide)) (by have := mz_nat9 (i := v58) (by have := R442.1 15 _ _ rfl; have := R442.1 16 _ _ rfl; have := R442.1 19 _ _ rfl; omega); have := R442.1 15 _ _ rfl; have := R442.1 16 _ _ rfl; have := R442.1 19 _ _ rfl; omega)
                              have K504 : sA [7] M60 M475 o0 := K463.trans (sA_c I440 J478 (I440.up h_o0) (by decide +kernel))
                              have K505 : rC M475 o0 ((20 + v58).toNatClampNeg) := K464.add R442 f486 (by have := mz_nat9 (i := v58) (by have := R442.1 15 _ _ rfl; have := R442.1 16 _ _ rfl; have := R442.1 19 _ _ rfl; omega); have := R442.1 15 _ _ rfl; have := R442.1 16 _ _ rfl; have := R442.1 19 _ _ rfl; omega) i6_268.toInt.toNat (by have := R442.1 15 _ _ rfl; have := R442.1 16 _ _ rfl; have := R442.1 19 _ _ rfl; omega) (by have := mz_nat9 (i := i6_268) (by have := R442.1 15 _ _ rfl; have := R442.1 16 _ _ rfl; have := R442.1 19 _ _ rfl; omega); have := R442.1 15 _ _ rfl; have := R442.1 16 _ _ rfl; have := R442.1 19 _ _ rfl; omega) (by rw [show ((20 * (20 + v58)) + i6_268).toInt.toNat = ((20 * (20 + v58)) + i6_268).toNatClampNeg from by have := mz_nat9 (i := ((20 * (20 + v58)) + i6_268)) (by have := R442.1 15 _ _ rfl; have := R442.1 16 _ _ rfl; have := R442.1 19 _ _ rfl; omega); have := R442.1 15 _ _ rfl; have := R442.1 16 _ _ rfl; have := R442.1 19 _ _ rfl; omega]; omega) (sA_c I440 J478 (I440.up h_o0) (by decide)) (sF_c I440 J478 (I440.up h_o0) (by decide))
                              have := f486.2.2 v58.toNatClampNeg
                              rw [if_pos rfl] at this
                              clear z446 z447 z448 z450 z451 z452 z453 z454 z455 z456 z457 z459 z460
                              have q506 := J478.keep h_q0_268 (by decide) (K441 _ 13 6 _ (K406 _ 13 6 _ q269))
                              have t507 := J478.up t_a270
                              have q508 := J478.keep h_q0_268 (by decide) (K441 _ 13 7 _ (K406 _ 13 7 _ q331))
                              have t509 := J478.up t_a332
                              have q510 := J478.keep h_q0_268 (by decide) (K441 _ 13 38 _ (K406 _ 13 38 _ q395))
                              have t511 := J478.up t_a396
                              have q512 := J478.keep h_q0_268 (by decide) (K441 _ 13 8 _ (K406 _ 13 8 _ q397))
                              have t513 := J478.up t_a398
                              have q514 := J478.keep h_q0_268 (by decide) (K441 _ 13 39 _ q430)
                              have t515 := J478.up t_a431
                              have q516 := J478.keep h_q0_268 (by decide) (K441 _ 13 9 _ q432)
                              have t517 := J478.up t_a433
                              refine mv_iinc (v := (i6_268 + 1)) (lv' := [(6, .int (i6_268 + 1)), (7, .int ((20 * (20 + v58)) + i6_268)), (5, .int v58), (4, .int v67), (3, .int (20 + v58)), (0, .ref o0), (1, .int x1), (2, .int x2)]) d_TrustDeskModel_fund_268 rfl rfl (by decide) rfl ?_
                              refine mv_goto (tgt := 155) d_TrustDeskModel_fund_271 (by decide) ?_
                              have b518 : (i6_268 + 1 : Int32).toInt = (i6_268.toInt + 1) := mz_add2 rfl (by decide) (by have := R485.1 15 _ _ rfl; have := R485.1 16 _ _ rfl; have := R485.1 19 _ _ rfl; omega) (by have := R485.1 15 _ _ rfl; have := R485.1 16 _ _ rfl; have := R485.1 19 _ _ rfl; omega)
                              refine mv_locals (lv' := [(6, .int (i6_268 + 1)), (5, .int v58), (4, .int v67), (3, .int (20 + v58)), (0, .ref o0), (1, .int x1), (2, .int x2)]) (by intro q hq; simp only [List.mem_cons, List.not_mem_nil, or_false] at hq; rcases hq with rfl | rfl | rfl | rfl | rfl | rfl | rfl <;> rfl) ?_
                              have b519 : (i6_268 + 1).toInt = i6_268.toInt + 1 := mz_addn 1 1 (by decide) (by have := mz_lo i6_268; omega) (by have := mz_hi i6_268; omega)
                              exact (ih268 (i6_268 + 1) T477 M475 n476 I479 t487 (by have := R485.1 15 _ _ rfl; have := R485.1 16 _ _ rfl; have := R485.1 19 _ _ rfl; first | omega | decide | exact fun h9 => absurd (by decide) h9) (by have := R485.1 15 _ _ rfl; have := R485.1 16 _ _ rfl; have := R485.1 19 _ _ rfl; first | omega | decide | exact fun h9 => absurd (by decide) h9) (by have := R485.1 15 _ _ rfl; have := R485.1 16 _ _ rfl; have := R485.1 19 _ _ rfl; first | omega | decide | exact fun h9 => absurd (by decide) h9) (by have := R485.1 15 _ _ rfl; have := R485.1 16 _ _ rfl; have := R485.1 19 _ _ rfl; first | omega | decide | exact fun h9 => absurd (by decide) h9) (by have := R485.1 15 _ _ rfl; have := R485.1 16 _ _ rfl; have := R485.1 19 _ _ rfl; first | omega | decide | exact fun h9 => absurd (by decide) h9) (by have := R485.1 15 _ _ rfl; have := R485.1 16 _ _ rfl; have := R485.1 19 _ _ rfl; first | omega | decide | exact fun h9 => absurd (by decide) h9) (by have := R485.1 15 _ _ rfl; have := R485.1 16 _ _ rfl; have := R485.1 19 _ _ rfl; first | omega | decide | exact fun h9 => absurd (by decide) h9) (by rw [show (i6_268 + 1 : Int32).toInt.toNat = i6_268.toInt.toNat + 1 from by omega]; have := R485.1 15 _ _ rfl; have := R485.1 16 _ _ rfl; have := R485.1 19 _ _ rfl; omega) (by have := R485.1 15 _ _ rfl; have := R485.1 16 _ _ rfl; have := R485.1 19 _ _ rfl; first | omega | decide | exact fun h9 => absurd (by decide) h9) R485 K502 K503 K504 K505 (by have := R485.1 15 _ _ rfl; have := R485.1 16 _ _ rfl; have := R485.1 19 _ _ rfl; omega))
                        · refine mv_aload_n d_TrustDeskModel_fund_187 rfl rfl ?_
                          obtain ⟨a521, q520, t_a521⟩ := tm_atR I_268 h_q0_268 (k := 36) rfl
                          refine tr_getK q520 d_TrustDeskModel_fund_188 f_TrustDeskModel_76_13 ?_
                          refine mv_iload d_TrustDeskModel_fund_191 rfl ?_
                          refine mv_dup2_11 d_TrustDeskModel_fund_193 rfl rfl ?_
                          refine tr_ialdR (o := o0) (k := 36) I_268 q520 t_a521 (by decide) d_TrustDeskModel_fund_194 (vp_in_iff.mpr (by have := kKR_268.1 15 _ _ rfl; have := kKR_268.1 16 _ _ rfl; have := kKR_268.1 19 _ _ rfl; omega)) (fun v522 e523 => ?_)
                          refine mv_aload_n d_TrustDeskModel_fund_195 rfl rfl ?_
                          obtain ⟨a525, q524, t_a525⟩ := tm_atR I_268 h_q0_268 (k := 8) rfl
                          refine tr_getK q524 d_TrustDeskModel_fund_196 f_TrustDeskModel_29_13 ?_
                          refine mv_iload d_TrustDeskModel_fund_199 rfl ?_
                          have b526 : (20 + v58 : Int32).toInt = (20 + v58.toInt) := mz_add2 (by decide) rfl (by have := kKR_268.1 15 _ _ rfl; have := kKR_268.1 16 _ _ rfl; have := kKR_268.1 19 _ _ rfl; omega) (by have := kKR_268.1 15 _ _ rfl; have := kKR_268.1 16 _ _ rfl; have := kKR_268.1 19 _ _ rfl; omega)
                          have b527 : (20 * (20 + v58) : Int32).toInt = (20 * (20 + v58.toInt)) := mz_mul2 (by decide) b526 (by have := kKR_268.1 15 _ _ rfl; have := kKR_268.1 16 _ _ rfl; have := kKR_268.1 19 _ _ rfl; omega) (by have := kKR_268.1 15 _ _ rfl; have := kKR_268.1 16 _ _ rfl; have := kKR_268.1 19 _ _ rfl; omega)
                          have b528 : ((20 * (20 + v58)) + i6_268 : Int32).toInt = ((20 * (20 + v58.toInt)) + i6_268.toInt) := mz_add2 b527 rfl (by have := kKR_268.1 15 _ _ rfl; have := kKR_268.1 16 _ _ rfl; have := kKR_268.1 19 _ _ rfl; omega) (by have := kKR_268.1 15 _ _ rfl; have := kKR_268.1 16 _ _ rfl; have := kKR_268.1 19 _ _ rfl; omega)
                          refine tr_ialdR (o := o0) (k := 8) I_268 q524 t_a525 (by decide) d_TrustDeskModel_fund_201 (vp_in_iff.mpr (by have := kKR_268.1 15 _ _ rfl; have := kKR_268.1 16 _ _ rfl; have := kKR_268.1 19 _ _ rfl; omega)) (fun v529 e530 => ?_)
                          have := kKR_268.a (k := 8) rfl (((20 * (20 + v58)) + i6_268) : Int32).toNatClampNeg
                          refine mv_ior d_TrustDeskModel_fund_202 ?_
                          refine tr_iastR (k := 36) I_268 kKR_268 (I_268.up h_o0) q520 t_a521 (by decide) (by decide) (fun lo hi h => by cases h) (Or.inl (by decide)) d_TrustDeskModel_fund_203 (vp_in_iff.mpr (by have := kKR_268.1 15 _ _ rfl; have := kKR_268.1 16 _ _ rfl; have := kKR_268.1 19 _ _ rfl; omega)) (fun M531 I532 K533 R534 E535 A536 V537 => ?_)
                          have z538 := (V537 15)
                          have z539 := (V537 16)
                          have z540 := (V537 17)
                          have z541 := (V537 19)
                          have z542 := (V537 22)
                          have z543 := (V537 24)
                          have z544 := (V537 27)
                          have z545 := (V537 32)
                          have z546 := (V537 49)
                          have z547 := (A536 5 (by decide) rfl 44)
                          have z548 := (A536 6 (by decide) rfl 44)
                          have z549 := (A536 6 (by decide) rfl ((20 + v58).toNatClampNeg))
                          have z550 := (A536 43 (by decide) rfl v58.toNatClampNeg)
                          have z551 := (A536 37 (by decide) rfl v58.toNatClampNeg)
                          have z552 := (A536 7 (by decide) rfl (((20 * (20 + v58)) + i6_268).toNatClampNeg)).trans z338
                          have K553 : rP M531 o0 := kKP_268.same (sA_a A536 (by decide +kernel)) (sF_a V537)
                          have K554 : rB M531 o0 v58.toNatClampNeg := kKB_268.same (sA_a A536 (by decide +kernel)) (sF_a V537)
                          have K555 : sA [7] M60 M531 o0 := kKY_268.trans (sA_a A536 (by decide +kernel))
                          have K556 : rC M531 o0 ((20 + v58).toNatClampNeg) := kKC_268.same (sA_a A536 (by decide +kernel)) (sF_a V537)
                          clear z338
                          refine mv_aload_n d_TrustDeskModel_fund_204 rfl rfl ?_
                          refine tr_getK (k := 7) (K533 _ 13 7 _ q331) d_TrustDeskModel_fund_205 f_TrustDeskModel_26_13 ?_
                          refine mv_iload d_TrustDeskModel_fund_208 rfl ?_
                          have b557 : (20 + v58 : Int32).toInt = (20 + v58.toInt) := mz_add2 (by decide) rfl (by have := R534.1 15 _ _ rfl; have := R534.1 16 _ _ rfl; have := R534.1 19 _ _ rfl; omega) (by have := R534.1 15 _ _ rfl; have := R534.1 16 _ _ rfl; have := R534.1 19 _ _ rfl; omega)
                          have b558 : (20 * (20 + v58) : Int32).toInt = (20 * (20 + v58.toInt)) := mz_mul2 (by decide) b557 (by have := R534.1 15 _ _ rfl; have := R534.1 16 _ _ rfl; have := R534.1 19 _ _ rfl; omega) (by have := R534.1 15 _ _ rfl; have := R534.1 16 _ _ rfl; have := R534.1 19 _ _ rfl; omega)
                          have b559 : ((20 * (20 + v58)) + i6_268 : Int32).toInt = ((20 * (20 + v58.toInt)) + i6_268.toInt) := mz_add2 b558 rfl (by have := R534.1 15 _ _ rfl; have := R534.1 16 _ _ rfl; have := R534.1 19 _ _ rfl; omega) (by have := R534.1 15 _ _ rfl; have := R534.1 16 _ _ rfl; have := R534.1 19 _ _ rfl; omega)
                          refine tr_ialdR (o := o0) (k := 7) I532 (K533 _ 13 7 _ q331) t_a332 (by decide) d_TrustDeskModel_fund_210 (vp_in_iff.mpr (by have := R534.1 15 _ _ rfl; have := R534.1 16 _ _ rfl; have := R534.1 19 _ _ rfl; omega)) (fun v560 e561 => ?_)
                          have : v560.toInt = _ := Eq.trans e561 z552
                          have h562 : ((20 * (20 + v58)) + i6_268).toNatClampNeg = 20 * (20 + v58).toNatClampNeg + i6_268.toInt.toNat := by have := mz_nat9 (i := ((20 * (20 + v58)) + i6_268)) (by have := R534.1 15 _ _ rfl; have := R534.1 16 _ _ rfl; have := R534.1 19 _ _ rfl; omega); have := mz_nat9 (i := (20 + v58)) (by have := R534.1 15 _ _ rfl; have := R534.1 16 _ _ rfl; have := R534.1 19 _ _ rfl; omega); have := R534.1 15 _ _ rfl; have := R534.1 16 _ _ rfl; have := R534.1 19 _ _ rfl; omega
                          have : v560.toInt = ra M60 o0 7 (20 * (20 + v58).toNatClampNeg + i6_268.toInt.toNat) := by have e9 := K555 7 rfl; rw [← e9, e561, h562]
                          refine mv_bipush (v := 9) d_TrustDeskModel_fund_211 (by decide) ?_
                          have := mz_hi v560
                          refine mv_icmp_neZ (tgt := 244) (a := v560.toInt) (b := 9) d_TrustDeskModel_fund_213 (by decide) rfl (by decide) (fun b563 => ?_) (fun b563 => absurd b563 (by omega))
                          refine mv_aload_n d_TrustDeskModel_fund_244 rfl rfl ?_
                          refine tr_getK (k := 7) (K533 _ 13 7 _ q331) d_TrustDeskModel_fund_245 f_TrustDeskModel_26_13 ?_
                          refine mv_iload d_TrustDeskModel_fund_248 rfl ?_
                          have b564 : (20 + v58 : Int32).toInt = (20 + v58.toInt) := mz_add2 (by decide) rfl (by have := R534.1 15 _ _ rfl; have := R534.1 16 _ _ rfl; have := R534.1 19 _ _ rfl; omega) (by have := R534.1 15 _ _ rfl; have := R534.1 16 _ _ rfl; have := R534.1 19 _ _ rfl; omega)
                          have b565 : (20 * (20 + v58) : Int32).toInt = (20 * (20 + v58.toInt)) := mz_mul2 (by decide) b564 (by have := R534.1 15 _ _ rfl; have := R534.1 16 _ _ rfl; have := R534.1 19 _ _ rfl; omega) (by have := R534.1 15 _ _ rfl; have := R534.1 16 _ _ rfl; have := R534.1 19 _ _ rfl; omega)
                          have b566 : ((20 * (20 + v58)) + i6_268 : Int32).toInt = ((20 * (20 + v58.toInt)) + i6_268.toInt) := mz_add2 b565 rfl (by have := R534.1 15 _ _ rfl; have := R534.1 16 _ _ rfl; have := R534.1 19 _ _ rfl; omega) (by have := R534.1 15 _ _ rfl; have := R534.1 16 _ _ rfl; have := R534.1 19 _ _ rfl; omega)
                          refine tr_ialdR (o := o0) (k := 7) I532 (K533 _ 13 7 _ q331) t_a332 (by decide) d_TrustDeskModel_fund_250 (vp_in_iff.mpr (by have := R534.1 15 _ _ rfl; have := R534.1 16 _ _ rfl; have := R534.1 19 _ _ rfl; omega)) (fun v567 e568 => ?_)
                          have : v567.toInt = _ := Eq.trans e568 z552
                          have h569 : ((20 * (20 + v58)) + i6_268).toNatClampNeg = 20 * (20 + v58).toNatClampNeg + i6_268.toInt.toNat := by have := mz_nat9 (i := ((20 * (20 + v58)) + i6_268)) (by have := R534.1 15 _ _ rfl; have := R534.1 16 _ _ rfl; have := R534.1 19 _ _ rfl; omega); have := mz_nat9 (i := (20 + v58)) (by have := R534.1 15 _ _ rfl; have := R534.1 16 _ _ rfl; have := R534.1 19 _ _ rfl; omega); have := R534.1 15 _ _ rfl; have := R534.1 16 _ _ rfl; have := R534.1 19 _ _ rfl; omega
                          have : v567.toInt = ra M60 o0 7 (20 * (20 + v58).toNatClampNeg + i6_268.toInt.toNat) := by have e9 := K555 7 rfl; rw [← e9, e568, h569]
                          refine mv_bipush (v := 8) d_TrustDeskModel_fund_251 (by decide) ?_
                          have := mz_hi v567
                          refine mv_icmp_neZ (tgt := 268) (a := v567.toInt) (b := 8) d_TrustDeskModel_fund_253 (by decide) rfl (by decide) (fun b570 => ?_) (fun b570 => absurd b570 (by omega))
                          refine mv_iinc (v := (i6_268 + 1)) (lv' := [(6, .int (i6_268 + 1)), (7, .int ((20 * (20 + v58)) + i6_268)), (5, .int v58), (4, .int v67), (3, .int (20 + v58)), (0, .ref o0), (1, .int x1), (2, .int x2)]) d_TrustDeskModel_fund_268 rfl rfl (by decide) rfl ?_
                          refine mv_goto (tgt := 155) d_TrustDeskModel_fund_271 (by decide) ?_
                          have b571 : (i6_268 + 1 : Int32).toInt = (i6_268.toInt + 1) := mz_add2 rfl (by decide) (by have := R534.1 15 _ _ rfl; have := R534.1 16 _ _ rfl; have := R534.1 19 _ _ rfl; omega) (by have := R534.1 15 _ _ rfl; have := R534.1 16 _ _ rfl; have := R534.1 19 _ _ rfl; omega)
                          refine mv_locals (lv' := [(6, .int (i6_268 + 1)), (5, .int v58), (4, .int v67), (3, .int (20 + v58)), (0, .ref o0), (1, .int x1), (2, .int x2)]) (by intro q hq; simp only [List.mem_cons, List.not_mem_nil, or_false] at hq; rcases hq with rfl | rfl | rfl | rfl | rfl | rfl | rfl <;> rfl) ?_
                          have b572 : (i6_268 + 1).toInt = i6_268.toInt + 1 := mz_addn 1 1 (by decide) (by have := mz_lo i6_268; omega) (by have := mz_hi i6_268; omega)
                          exact (ih268 (i6_268 + 1) T_268 M531 n_268 I532 h_q0_268 (by have := R534.1 15 _ _ rfl; have := R534.1 16 _ _ rfl; have := R534.1 19 _ _ rfl; first | omega | decide | exact fun h9 => absurd (by decide) h9) (by have := R534.1 15 _ _ rfl; have := R534.1 16 _ _ rfl; have := R534.1 19 _ _ rfl; first | omega | decide | exact fun h9 => absurd (by decide) h9) (by have := R534.1 15 _ _ rfl; have := R534.1 16 _ _ rfl; have := R534.1 19 _ _ rfl; first | omega | decide | exact fun h9 => absurd (by decide) h9) (by have := R534.1 15 _ _ rfl; have := R534.1 16 _ _ rfl; have := R534.1 19 _ _ rfl; first | omega | decide | exact fun h9 => absurd (by decide) h9) (by have := R534.1 15 _ _ rfl; have := R534.1 16 _ _ rfl; have := R534.1 19 _ _ rfl; first | omega | decide | exact fun h9 => absurd (by decide) h9) (by have := R534.1 15 _ _ rfl; have := R534.1 16 _ _ rfl; have := R534.1 19 _ _ rfl; first | omega | decide | exact fun h9 => absurd (by decide) h9) (by have := R534.1 15 _ _ rfl; have := R534.1 16 _ _ rfl; have := R534.1 19 _ _ rfl; first | omega | decide | exact fun h9 => absurd (by decide) h9) (by rw [show (i6_268 + 1 : Int32).toInt.toNat = i6_268.toInt.toNat + 1 from by omega]; have := R534.1 15 _ _ rfl; have := R534.1 16 _ _ rfl; have := R534.1 19 _ _ rfl; omega) (by have := R534.1 15 _ _ rfl; have := R534.1 16 _ _ rfl; have := R534.1 19 _ _ rfl; first | omega | decide | exact fun h9 => absurd (by decide) h9) R534 K553 K554 K555 K556 (by have := R534.1 15 _ _ rfl; have := R534.1 16 _ _ rfl; have := R534.1 19 _ _ rfl; omega))
                  have : (0 : Int32).toInt = 0 := by decide
                  have K573 : rB M243 o0 v58.toNatClampNeg := K265.to
                  exact mv_less (Nat.zero_le _) (Nat.zero_le _) (L155_268 4294967296 0 T62 M243 n61 I244 t71 (by have := R246.1 15 _ _ rfl; have := R246.1 16 _ _ rfl; have := R246.1 19 _ _ rfl; first | omega | decide | exact fun h9 => absurd (by decide) h9) (by have := R246.1 15 _ _ rfl; have := R246.1 16 _ _ rfl; have := R246.1 19 _ _ rfl; first | omega | decide | exact fun h9 => absurd (by decide) h9) (by have := R246.1 15 _ _ rfl; have := R246.1 16 _ _ rfl; have := R246.1 19 _ _ rfl; first | omega | decide | exact fun h9 => absurd (by decide) h9) (by have := R246.1 15 _ _ rfl; have := R246.1 16 _ _ rfl; have := R246.1 19 _ _ rfl; first | omega | decide | exact fun h9 => absurd (by decide) h9) (by have := R246.1 15 _ _ rfl; have := R246.1 16 _ _ rfl; have := R246.1 19 _ _ rfl; first | omega | decide | exact fun h9 => absurd (by decide) h9) (by have := R246.1 15 _ _ rfl; have := R246.1 16 _ _ rfl; have := R246.1 19 _ _ rfl; first | omega | decide | exact fun h9 => absurd (by decide) h9) (by have := R246.1 15 _ _ rfl; have := R246.1 16 _ _ rfl; have := R246.1 19 _ _ rfl; first | omega | decide | exact fun h9 => absurd (by decide) h9) (by show _ ≤ kc _ _ _ 0; show _ ≤ (0 : Int); have := R246.1 15 _ _ rfl; have := R246.1 16 _ _ rfl; have := R246.1 19 _ _ rfl; omega) (by have := R246.1 15 _ _ rfl; have := R246.1 16 _ _ rfl; have := R246.1 19 _ _ rfl; first | omega | decide | exact fun h9 => absurd (by decide) h9) R246 K264 K573 K266 K267 (by show (2147483647 - (0 : Int) : Int) < _; decide))
                · have K574 : rC M60 o0 44 := K83.1 (by omega)
                  refine mv_iload d_TrustDeskModel_fund_86 rfl ?_
                  exact mv_iret d_TrustDeskModel_fund_88 rfl (by first | rfl | decide) ⟨_, I64, _, rfl, R68, K574, K81, K82, (by have := R68.1 15 _ _ rfl; have := R68.1 16 _ _ rfl; have := R68.1 19 _ _ rfl; omega)⟩
            have L45_575 : ∀ (k : Nat) (T_575 : tm_H) (M_575 : mj_M) (n_575 : Nat), tm_I tm_FT (tm_in w_TrustDeskModel_fund_x) x9 T0 M0 n0 T_575 M_575 n_575 → T_575 o0 = some (0, 13, 0) → (rv M_575 o0 19 = 0 → rv M_575 o0 22 = 0) → rv M_575 o0 27 = rv M0 o0 27 → rv M_575 o0 32 = rv M0 o0 32 → rv M_575 o0 49 = rv M0 o0 49 → ra M_575 o0 6 44 ≤ 12 → (rI M_575 o0) → (rC M_575 o0 44) → (rP M_575 o0) → (rB M_575 o0 12) → (rW M_575 o0) → 5 * (401 - rv M_575 o0 16) - rv M_575 o0 19 < (k : Int) → mj_V g l kY_TrustDeskModel_fund (d + 27) 45 [(0, .ref o0), (1, .int x1), (2, .int x2)] [] M_575 n_575 0 0 (tm_Q tm_FT (tm_in w_TrustDeskModel_fund_x) x9 T0 M0 n0 (fun r _ M => ∃ v : Int32, r = some (.int v) ∧ rI M o0 ∧ (rC M o0 44) ∧ (rP M o0) ∧ (rB M o0 12) ∧ (rv M0 o0 32 ≤ rv M o0 32))) := by
              intro k575
              induction k575 with
              | zero =>
                intro T_575 M_575 n_575 I_575 h_q0_575 iv0_575 iv1_575 iv2_575 iv3_575 iv4_575 kKR_575 kKC_575 kKP_575 kKB_575 kKW_575 hk575
                have := kKR_575.1 15 _ _ rfl
                have := kKR_575.1 16 _ _ rfl
                have := kKR_575.1 19 _ _ rfl
                exfalso; omega
              | succ k575 ih575 =>
                intro T_575 M_575 n_575 I_575 h_q0_575 iv0_575 iv1_575 iv2_575 iv3_575 iv4_575 kKR_575 kKC_575 kKP_575 kKB_575 kKW_575 hk575
                refine mv_aload_n d_TrustDeskModel_fund_45 rfl rfl ?_
                obtain ⟨_, b576, -⟩ := I_575.1 _ _ h_q0_575
                refine mv_callV (kc1 := 0) (ks1 := 0) (kc' := 0) (ks' := 0) (As := []) (st9 := [.ref o0]) d_TrustDeskModel_fund_46 lV_TrustDeskModel_230 b576 rfl (mj_enter (by decide) (Nat.le_of_ble_eq_true rfl) ?_) rfl (Nat.le_of_ble_eq_true rfl) (Nat.le_of_ble_eq_true rfl) (Nat.le_of_ble_eq_true rfl) (hst := rfl) (fun _ _ _ h => h)
                refine mv_aload_n d_TrustDeskModel_isWell_0 rfl rfl ?_
                obtain ⟨v578, q577⟩ := tm_atI I_575 h_q0_575 (k := 19) rfl
                refine tr_getK q577 d_TrustDeskModel_isWell_1 f_TrustDeskModel_224_13 ?_
                have := kKR_575.f (k := 19) q577 rfl
                have := tm_rv q577
                have := mz_hi v578
                refine mv_if_neZ (tgt := 11) (a := v578.toInt) d_TrustDeskModel_isWell_4 (by decide) rfl (fun b579 => ?_) (fun b579 => ?_)
                · refine mv_iconst (v := 0) d_TrustDeskModel_isWell_11 (by decide) ?_
                  refine mv_iret d_TrustDeskModel_isWell_12 rfl (by decide) ?_
                  refine mv_if_eq_t (tgt := 66) d_TrustDeskModel_fund_49 (by decide) (by decide) ?_
                  exact C66_56 T_575 M_575 n_575 I_575 h_q0_575 (fun w9 => by skip; omega) (by have := kKR_575.1 15 _ _ rfl; have := kKR_575.1 16 _ _ rfl; have := kKR_575.1 19 _ _ rfl; first | omega | decide | exact fun h9 => absurd (by decide) h9) (by have := kKR_575.1 15 _ _ rfl; have := kKR_575.1 16 _ _ rfl; have := kKR_575.1 19 _ _ rfl; first | omega | decide | exact fun h9 => absurd (by decide) h9) (by have := kKR_575.1 15 _ _ rfl; have := kKR_575.1 16 _ _ rfl; have := kKR_575.1 19 _ _ rfl; first | omega | decide | exact fun h9 => absurd (by decide) h9) (by have := kKR_575.1 15 _ _ rfl; have := kKR_575.1 16 _ _ rfl; have := kKR_575.1 19 _ _ rfl; first | omega | decide | exact fun h9 => absurd (by decide) h9) kKR_575 kKC_575 kKP_575 kKB_575 kKW_575
                · refine mv_iconst (v := 1) d_TrustDeskModel_isWell_7 (by decide) ?_
                  refine mv_goto (tgt := 12) d_TrustDeskModel_isWell_8 (by decide) ?_
                  refine mv_iret d_TrustDeskModel_isWell_12 rfl (by decide) ?_
                  refine mv_if_eq_f (tgt := 66) d_TrustDeskModel_fund_49 (by decide) (by decide) ?_
                  refine mv_aload_n d_TrustDeskModel_fund_52 rfl rfl ?_
                  obtain ⟨v581, q580⟩ := tm_atI I_575 h_q0_575 (k := 17) rfl
                  refine tr_getK q580 d_TrustDeskModel_fund_53 f_TrustDeskModel_198_13 ?_
                  have := tm_rv q580
                  have := mz_hi v581
                  refine mv_if_eqZ (tgt := 66) (a := v581.toInt) d_TrustDeskModel_fund_56 (by decide) rfl (fun b582 => ?_) (fun b582 => ?_)
                  · exact C66_56 T_575 M_575 n_575 I_575 h_q0_575 (fun w9 => by skip; omega) (by have := kKR_575.1 15 _ _ rfl; have := kKR_575.1 16 _ _ rfl; have := kKR_575.1 19 _ _ rfl; first | omega | decide | exact fun h9 => absurd (by decide) h9) (by have := kKR_575.1 15 _ _ rfl; have := kKR_575.1 16 _ _ rfl; have := kKR_575.1 19 _ _ rfl; first | omega | decide | exact fun h9 => absurd (by decide) h9) (by have := kKR_575.1 15 _ _ rfl; have := kKR_575.1 16 _ _ rfl; have := kKR_575.1 19 _ _ rfl; first | omega | decide | exact fun h9 => absurd (by decide) h9) (by have := kKR_575.1 15 _ _ rfl; have := kKR_575.1 16 _ _ rfl; have := kKR_575.1 19 _ _ rfl; first | omega | decide | exact fun h9 => absurd (by decide) h9) kKR_575 kKC_575 kKP_575 kKB_575 kKW_575
                  · refine mv_aload_n d_TrustDeskModel_fund_59 rfl rfl ?_
                    obtain ⟨_, b589, -⟩ := I_575.1 _ _ h_q0_575
                    refine mv_callV (kc' := 0) (ks' := 0) (As := []) (st9 := [.ref o0]) d_TrustDeskModel_fund_60 lV_TrustDeskModel_425 b589 rfl (tc_TrustDeskModel_readClause_x (d := d) (x9 := x9) (o0 := o0) h_q0_575 kKR_575 kKW_575 (by have := kKR_575.1 15 _ _ rfl; have := kKR_575.1 16 _ _ rfl; have := kKR_575.1 19 _ _ rfl; omega) (by have := kKR_575.1 15 _ _ rfl; have := kKR_575.1 16 _ _ rfl; have := kKR_575.1 19 _ _ rfl; omega) (by have := kKR_575.1 15 _ _ rfl; have := kKR_575.1 16 _ _ rfl; have := kKR_575.1 19 _ _ rfl; omega) (by have := kKR_575.1 15 _ _ rfl; have := kKR_575.1 16 _ _ rfl; have := kKR_575.1 19 _ _ rfl; omega) I_575.start) rfl (Nat.le_of_ble_eq_true rfl) (Nat.le_of_ble_eq_true rfl) (Nat.le_of_ble_eq_true rfl) (hst := rfl) (fun b583r M584 n585 b583 => ?_)
                    obtain ⟨T586, J587, rfl, R590, f591, f592, f593, f594, f595, f596⟩ := b583
                    have I588 := I_575.call J587 (tm_sub (by decide)) (Or.inl rfl)
                    have t597 := J587.up h_q0_575
                    replace f594 := Im.i f594
                    replace f595 := Im.i f595
                    have z598 := (rv_c I_575 J587 (I_575.up h_o0) (k := 27) rfl)
                    have z599 := (rv_c I_575 J587 (I_575.up h_o0) (k := 32) rfl)
                    have z600 := (rv_c I_575 J587 (I_575.up h_o0) (k := 49) rfl)
                    have K601 : rC M584 o0 44 := kKC_575.rO kKR_575 f592 (sA_c I_575 J587 (I_575.up h_o0) (by decide)) (sF_c I_575 J587 (I_575.up h_o0) (by decide))
                    have K602 : rP M584 o0 := kKP_575.same (sA_c I_575 J587 (I_575.up h_o0) (by decide +kernel)) (sF_c I_575 J587 (I_575.up h_o0) (by decide +kernel))
                    have K603 : rB M584 o0 12 := kKB_575.same (sA_c I_575 J587 (I_575.up h_o0) (by decide +kernel)) (sF_c I_575 J587 (I_575.up h_o0) (by decide +kernel))
                    have K604 : rW M584 o0 := f591
                    refine mv_goto (tgt := 45) d_TrustDeskModel_fund_63 (by decide) ?_
                    exact (ih575 T586 M584 n585 I588 t597 (fun w9 => by have u91 : rv M584 o0 19 = 0 := (by omega); have := f594.o u91; omega) (by have := R590.1 15 _ _ rfl; have := R590.1 16 _ _ rfl; have := R590.1 19 _ _ rfl; first | omega | decide | exact fun h9 => absurd (by decide) h9) (by have := R590.1 15 _ _ rfl; have := R590.1 16 _ _ rfl; have := R590.1 19 _ _ rfl; first | omega | decide | exact fun h9 => absurd (by decide) h9) (by have := R590.1 15 _ _ rfl; have := R590.1 16 _ _ rfl; have := R590.1 19 _ _ rfl; first | omega | decide | exact fun h9 => absurd (by decide) h9) (by have := R590.1 15 _ _ rfl; have := R590.1 16 _ _ rfl; have := R590.1 19 _ _ rfl; first | omega | decide | exact fun h9 => absurd (by decide) h9) R590 K601 K602 K603 K604 (by have := R590.1 15 _ _ rfl; have := R590.1 16 _ _ rfl; have := R590.1 19 _ _ rfl; exact Classical.byCases (fun w9 : rv M584 o0 19 = 0 => by have u91 : rv M584 o0 19 = 0 := (by omega); have := f594.o u91; omega) (fun w9 : ¬ rv M584 o0 19 = 0 => by omega)))
            exact mv_less (Nat.zero_le _) (Nat.zero_le _) (L45_575 4294967296 T35 M33 n34 I37 t46 (fun w9 => by skip; omega) (by have := R39.1 15 _ _ rfl; have := R39.1 16 _ _ rfl; have := R39.1 19 _ _ rfl; first | omega | decide | exact fun h9 => absurd (by decide) h9) (by have := R39.1 15 _ _ rfl; have := R39.1 16 _ _ rfl; have := R39.1 19 _ _ rfl; first | omega | decide | exact fun h9 => absurd (by decide) h9) (by have := R39.1 15 _ _ rfl; have := R39.1 16 _ _ rfl; have := R39.1 19 _ _ rfl; first | omega | decide | exact fun h9 => absurd (by decide) h9) (by have := R39.1 15 _ _ rfl; have := R39.1 16 _ _ rfl; have := R39.1 19 _ _ rfl; first | omega | decide | exact fun h9 => absurd (by decide) h9) R39 K50 K51 K52 K53 (by have := R39.1 15 _ _ rfl; have := R39.1 16 _ _ rfl; have := R39.1 19 _ _ rfl; omega))
          · refine mv_iconst (v := (-1)) d_TrustDeskModel_fund_38 (by decide) ?_
            exact mv_iret d_TrustDeskModel_fund_39 rfl (by first | rfl | decide) ⟨_, I5, _, rfl, R8, K22, K23, K24, (by have := R8.1 15 _ _ rfl; have := R8.1 16 _ _ rfl; have := R8.1 19 _ _ rfl; omega)⟩
