abbrev kY_TrustDeskModel_fund : mj_Y := (⟨"TrustDeskModel", "fund", "(II)I"⟩, prog_14_method_55_code, 8, (Option.some Jvm.ClassFile.FieldType.int))
theorem d_TrustDeskModel_fund_0 : decode kY_TrustDeskModel_fund.2.1 0 = .ok (.aload_n 0, 1) := by decide +kernel
theorem d_TrustDeskModel_fund_1 : decode kY_TrustDeskModel_fund.2.1 1 = .ok (.iconst 0, 1) := by decide +kernel
theorem d_TrustDeskModel_fund_2 : decode kY_TrustDeskModel_fund.2.1 2 = .ok (.putfield 1, 3) := by decide +kernel
theorem d_TrustDeskModel_fund_5 : decode kY_TrustDeskModel_fund.2.1 5 = .ok (.iload_n 1, 1) := by decide +kernel
theorem d_TrustDeskModel_fund_6 : decode kY_TrustDeskModel_fund.2.1 6 = .ok (.i2l, 1) := by decide +kernel
theorem d_TrustDeskModel_fund_7 : decode kY_TrustDeskModel_fund.2.1 7 = .ok (.lconst 0, 1) := by decide +kernel
theorem d_TrustDeskModel_fund_8 : decode kY_TrustDeskModel_fund.2.1 8 = .ok (.ldc2_w 421, 3) := by decide +kernel
theorem k_TrustDeskModel_421 : Cond.constantLong "TrustDeskModel" 421 999 ∈ mj_T := (mj_in1 (List.mem_of_getElem? (i := 1793) (by decide +kernel)) rfl)
theorem d_TrustDeskModel_fund_11 : decode kY_TrustDeskModel_fund.2.1 11 = .ok (.invokestatic 169, 3) := by decide +kernel
theorem d_TrustDeskModel_fund_14 : decode kY_TrustDeskModel_fund.2.1 14 = .ok (.ifCond .eq 24, 3) := by decide +kernel
theorem d_TrustDeskModel_fund_38 : decode kY_TrustDeskModel_fund.2.1 38 = .ok (.iconst (-1), 1) := by decide +kernel
theorem d_TrustDeskModel_fund_39 : decode kY_TrustDeskModel_fund.2.1 39 = .ok (.ireturn, 1) := by decide +kernel
theorem d_TrustDeskModel_fund_17 : decode kY_TrustDeskModel_fund.2.1 17 = .ok (.iload_n 2, 1) := by decide +kernel
theorem d_TrustDeskModel_fund_18 : decode kY_TrustDeskModel_fund.2.1 18 = .ok (.i2l, 1) := by decide +kernel
theorem d_TrustDeskModel_fund_19 : decode kY_TrustDeskModel_fund.2.1 19 = .ok (.lconst 0, 1) := by decide +kernel
theorem d_TrustDeskModel_fund_20 : decode kY_TrustDeskModel_fund.2.1 20 = .ok (.ldc2_w 423, 3) := by decide +kernel
theorem k_TrustDeskModel_423 : Cond.constantLong "TrustDeskModel" 423 99999 ∈ mj_T := (mj_in1 (List.mem_of_getElem? (i := 1794) (by decide +kernel)) rfl)
theorem d_TrustDeskModel_fund_23 : decode kY_TrustDeskModel_fund.2.1 23 = .ok (.invokestatic 169, 3) := by decide +kernel
theorem d_TrustDeskModel_fund_26 : decode kY_TrustDeskModel_fund.2.1 26 = .ok (.ifCond .eq 12, 3) := by decide +kernel
theorem d_TrustDeskModel_fund_29 : decode kY_TrustDeskModel_fund.2.1 29 = .ok (.aload_n 0, 1) := by decide +kernel
theorem d_TrustDeskModel_fund_30 : decode kY_TrustDeskModel_fund.2.1 30 = .ok (.getfield 415, 3) := by decide +kernel
theorem f_TrustDeskModel_415_13 : mj_fl "TrustDeskModel" 415 13 32 := ⟨kR_TrustDeskModel, kF_TrustDeskModel, 72, "TrustDeskModel", rfl, kg_13, by decide, (mj_in1 (List.mem_of_getElem? (i := 1418) (by decide +kernel)) rfl), Or.inl rfl⟩
theorem d_TrustDeskModel_fund_33 : decode kY_TrustDeskModel_fund.2.1 33 = .ok (.bipush 12, 2) := by decide +kernel
theorem d_TrustDeskModel_fund_35 : decode kY_TrustDeskModel_fund.2.1 35 = .ok (.if_icmp .ne 5, 3) := by decide +kernel
theorem d_TrustDeskModel_fund_40 : decode kY_TrustDeskModel_fund.2.1 40 = .ok (.aload_n 0, 1) := by decide +kernel
theorem d_TrustDeskModel_fund_41 : decode kY_TrustDeskModel_fund.2.1 41 = .ok (.iconst 0, 1) := by decide +kernel
theorem d_TrustDeskModel_fund_42 : decode kY_TrustDeskModel_fund.2.1 42 = .ok (.invokevirtual 381, 3) := by decide +kernel
theorem d_TrustDeskModel_fund_45 : decode kY_TrustDeskModel_fund.2.1 45 = .ok (.aload_n 0, 1) := by decide +kernel
theorem d_TrustDeskModel_fund_66 : decode kY_TrustDeskModel_fund.2.1 66 = .ok (.bipush 20, 2) := by decide +kernel
theorem d_TrustDeskModel_fund_68 : decode kY_TrustDeskModel_fund.2.1 68 = .ok (.aload_n 0, 1) := by decide +kernel
theorem d_TrustDeskModel_fund_69 : decode kY_TrustDeskModel_fund.2.1 69 = .ok (.getfield 415, 3) := by decide +kernel
theorem d_TrustDeskModel_fund_72 : decode kY_TrustDeskModel_fund.2.1 72 = .ok (.iadd, 1) := by decide +kernel
theorem d_TrustDeskModel_fund_73 : decode kY_TrustDeskModel_fund.2.1 73 = .ok (.istore_n 3, 1) := by decide +kernel
theorem d_TrustDeskModel_fund_74 : decode kY_TrustDeskModel_fund.2.1 74 = .ok (.aload_n 0, 1) := by decide +kernel
theorem d_TrustDeskModel_fund_75 : decode kY_TrustDeskModel_fund.2.1 75 = .ok (.iload_n 3, 1) := by decide +kernel
theorem d_TrustDeskModel_fund_76 : decode kY_TrustDeskModel_fund.2.1 76 = .ok (.invokevirtual 388, 3) := by decide +kernel
theorem d_TrustDeskModel_fund_79 : decode kY_TrustDeskModel_fund.2.1 79 = .ok (.istore 4, 2) := by decide +kernel
theorem d_TrustDeskModel_fund_81 : decode kY_TrustDeskModel_fund.2.1 81 = .ok (.iload 4, 2) := by decide +kernel
theorem d_TrustDeskModel_fund_83 : decode kY_TrustDeskModel_fund.2.1 83 = .ok (.ifCond .ge 6, 3) := by decide +kernel
theorem d_TrustDeskModel_fund_89 : decode kY_TrustDeskModel_fund.2.1 89 = .ok (.aload_n 0, 1) := by decide +kernel
theorem d_TrustDeskModel_fund_90 : decode kY_TrustDeskModel_fund.2.1 90 = .ok (.getfield 415, 3) := by decide +kernel
theorem d_TrustDeskModel_fund_93 : decode kY_TrustDeskModel_fund.2.1 93 = .ok (.istore 5, 2) := by decide +kernel
theorem d_TrustDeskModel_fund_95 : decode kY_TrustDeskModel_fund.2.1 95 = .ok (.aload_n 0, 1) := by decide +kernel
theorem d_TrustDeskModel_fund_96 : decode kY_TrustDeskModel_fund.2.1 96 = .ok (.getfield 66, 3) := by decide +kernel
theorem f_TrustDeskModel_66_13 : mj_fl "TrustDeskModel" 66 13 33 := ⟨kR_TrustDeskModel, kF_TrustDeskModel, 72, "TrustDeskModel", rfl, kg_13, by decide, (mj_in1 (List.mem_of_getElem? (i := 1419) (by decide +kernel)) rfl), Or.inl rfl⟩
theorem d_TrustDeskModel_fund_99 : decode kY_TrustDeskModel_fund.2.1 99 = .ok (.iload 5, 2) := by decide +kernel
theorem d_TrustDeskModel_fund_101 : decode kY_TrustDeskModel_fund.2.1 101 = .ok (.iload_n 1, 1) := by decide +kernel
theorem d_TrustDeskModel_fund_102 : decode kY_TrustDeskModel_fund.2.1 102 = .ok (.iastore, 1) := by decide +kernel
theorem d_TrustDeskModel_fund_103 : decode kY_TrustDeskModel_fund.2.1 103 = .ok (.aload_n 0, 1) := by decide +kernel
theorem d_TrustDeskModel_fund_104 : decode kY_TrustDeskModel_fund.2.1 104 = .ok (.getfield 69, 3) := by decide +kernel
theorem f_TrustDeskModel_69_13 : mj_fl "TrustDeskModel" 69 13 34 := ⟨kR_TrustDeskModel, kF_TrustDeskModel, 72, "TrustDeskModel", rfl, kg_13, by decide, (mj_in1 (List.mem_of_getElem? (i := 1420) (by decide +kernel)) rfl), Or.inl rfl⟩
theorem d_TrustDeskModel_fund_107 : decode kY_TrustDeskModel_fund.2.1 107 = .ok (.iload 5, 2) := by decide +kernel
theorem d_TrustDeskModel_fund_109 : decode kY_TrustDeskModel_fund.2.1 109 = .ok (.iload_n 2, 1) := by decide +kernel
theorem d_TrustDeskModel_fund_110 : decode kY_TrustDeskModel_fund.2.1 110 = .ok (.iastore, 1) := by decide +kernel
theorem d_TrustDeskModel_fund_111 : decode kY_TrustDeskModel_fund.2.1 111 = .ok (.aload_n 0, 1) := by decide +kernel
theorem d_TrustDeskModel_fund_112 : decode kY_TrustDeskModel_fund.2.1 112 = .ok (.getfield 72, 3) := by decide +kernel
theorem f_TrustDeskModel_72_13 : mj_fl "TrustDeskModel" 72 13 35 := ⟨kR_TrustDeskModel, kF_TrustDeskModel, 72, "TrustDeskModel", rfl, kg_13, by decide, (mj_in1 (List.mem_of_getElem? (i := 1421) (by decide +kernel)) rfl), Or.inl rfl⟩
theorem d_TrustDeskModel_fund_115 : decode kY_TrustDeskModel_fund.2.1 115 = .ok (.iload 5, 2) := by decide +kernel
theorem d_TrustDeskModel_fund_117 : decode kY_TrustDeskModel_fund.2.1 117 = .ok (.lconst 0, 1) := by decide +kernel
theorem d_TrustDeskModel_fund_118 : decode kY_TrustDeskModel_fund.2.1 118 = .ok (.lastore, 1) := by decide +kernel
theorem d_TrustDeskModel_fund_119 : decode kY_TrustDeskModel_fund.2.1 119 = .ok (.aload_n 0, 1) := by decide +kernel
theorem d_TrustDeskModel_fund_120 : decode kY_TrustDeskModel_fund.2.1 120 = .ok (.getfield 76, 3) := by decide +kernel
theorem f_TrustDeskModel_76_13 : mj_fl "TrustDeskModel" 76 13 36 := ⟨kR_TrustDeskModel, kF_TrustDeskModel, 72, "TrustDeskModel", rfl, kg_13, by decide, (mj_in1 (List.mem_of_getElem? (i := 1422) (by decide +kernel)) rfl), Or.inl rfl⟩
theorem d_TrustDeskModel_fund_123 : decode kY_TrustDeskModel_fund.2.1 123 = .ok (.iload 5, 2) := by decide +kernel
theorem d_TrustDeskModel_fund_125 : decode kY_TrustDeskModel_fund.2.1 125 = .ok (.iconst 0, 1) := by decide +kernel
theorem d_TrustDeskModel_fund_126 : decode kY_TrustDeskModel_fund.2.1 126 = .ok (.iastore, 1) := by decide +kernel
theorem d_TrustDeskModel_fund_127 : decode kY_TrustDeskModel_fund.2.1 127 = .ok (.aload_n 0, 1) := by decide +kernel
theorem d_TrustDeskModel_fund_128 : decode kY_TrustDeskModel_fund.2.1 128 = .ok (.getfield 79, 3) := by decide +kernel
theorem f_TrustDeskModel_79_13 : mj_fl "TrustDeskModel" 79 13 37 := ⟨kR_TrustDeskModel, kF_TrustDeskModel, 72, "TrustDeskModel", rfl, kg_13, by decide, (mj_in1 (List.mem_of_getElem? (i := 1423) (by decide +kernel)) rfl), Or.inl rfl⟩
theorem d_TrustDeskModel_fund_131 : decode kY_TrustDeskModel_fund.2.1 131 = .ok (.iload 5, 2) := by decide +kernel
theorem d_TrustDeskModel_fund_133 : decode kY_TrustDeskModel_fund.2.1 133 = .ok (.iconst (-1), 1) := by decide +kernel
theorem d_TrustDeskModel_fund_134 : decode kY_TrustDeskModel_fund.2.1 134 = .ok (.iastore, 1) := by decide +kernel
theorem d_TrustDeskModel_fund_135 : decode kY_TrustDeskModel_fund.2.1 135 = .ok (.aload_n 0, 1) := by decide +kernel
theorem d_TrustDeskModel_fund_136 : decode kY_TrustDeskModel_fund.2.1 136 = .ok (.getfield 82, 3) := by decide +kernel
theorem f_TrustDeskModel_82_13 : mj_fl "TrustDeskModel" 82 13 38 := ⟨kR_TrustDeskModel, kF_TrustDeskModel, 72, "TrustDeskModel", rfl, kg_13, by decide, (mj_in1 (List.mem_of_getElem? (i := 1424) (by decide +kernel)) rfl), Or.inl rfl⟩
theorem d_TrustDeskModel_fund_139 : decode kY_TrustDeskModel_fund.2.1 139 = .ok (.iload 5, 2) := by decide +kernel
theorem d_TrustDeskModel_fund_141 : decode kY_TrustDeskModel_fund.2.1 141 = .ok (.bipush 7, 2) := by decide +kernel
theorem d_TrustDeskModel_fund_143 : decode kY_TrustDeskModel_fund.2.1 143 = .ok (.iastore, 1) := by decide +kernel
theorem d_TrustDeskModel_fund_144 : decode kY_TrustDeskModel_fund.2.1 144 = .ok (.aload_n 0, 1) := by decide +kernel
theorem d_TrustDeskModel_fund_145 : decode kY_TrustDeskModel_fund.2.1 145 = .ok (.getfield 85, 3) := by decide +kernel
theorem f_TrustDeskModel_85_13 : mj_fl "TrustDeskModel" 85 13 39 := ⟨kR_TrustDeskModel, kF_TrustDeskModel, 72, "TrustDeskModel", rfl, kg_13, by decide, (mj_in1 (List.mem_of_getElem? (i := 1425) (by decide +kernel)) rfl), Or.inl rfl⟩
theorem d_TrustDeskModel_fund_148 : decode kY_TrustDeskModel_fund.2.1 148 = .ok (.iload 5, 2) := by decide +kernel
theorem d_TrustDeskModel_fund_150 : decode kY_TrustDeskModel_fund.2.1 150 = .ok (.iconst 1, 1) := by decide +kernel
theorem d_TrustDeskModel_fund_151 : decode kY_TrustDeskModel_fund.2.1 151 = .ok (.iastore, 1) := by decide +kernel
theorem d_TrustDeskModel_fund_152 : decode kY_TrustDeskModel_fund.2.1 152 = .ok (.iconst 0, 1) := by decide +kernel
theorem d_TrustDeskModel_fund_153 : decode kY_TrustDeskModel_fund.2.1 153 = .ok (.istore 6, 2) := by decide +kernel
theorem d_TrustDeskModel_fund_155 : decode kY_TrustDeskModel_fund.2.1 155 = .ok (.iload 6, 2) := by decide +kernel
theorem d_TrustDeskModel_fund_157 : decode kY_TrustDeskModel_fund.2.1 157 = .ok (.aload_n 0, 1) := by decide +kernel
theorem d_TrustDeskModel_fund_158 : decode kY_TrustDeskModel_fund.2.1 158 = .ok (.getfield 23, 3) := by decide +kernel
theorem d_TrustDeskModel_fund_161 : decode kY_TrustDeskModel_fund.2.1 161 = .ok (.iload_n 3, 1) := by decide +kernel
theorem d_TrustDeskModel_fund_162 : decode kY_TrustDeskModel_fund.2.1 162 = .ok (.iaload, 1) := by decide +kernel
theorem d_TrustDeskModel_fund_163 : decode kY_TrustDeskModel_fund.2.1 163 = .ok (.if_icmp .ge 111, 3) := by decide +kernel
theorem d_TrustDeskModel_fund_274 : decode kY_TrustDeskModel_fund.2.1 274 = .ok (.aload_n 0, 1) := by decide +kernel
theorem d_TrustDeskModel_fund_275 : decode kY_TrustDeskModel_fund.2.1 275 = .ok (.getfield 92, 3) := by decide +kernel
theorem f_TrustDeskModel_92_13 : mj_fl "TrustDeskModel" 92 13 41 := ⟨kR_TrustDeskModel, kF_TrustDeskModel, 72, "TrustDeskModel", rfl, kg_13, by decide, (mj_in1 (List.mem_of_getElem? (i := 1427) (by decide +kernel)) rfl), Or.inl rfl⟩
theorem d_TrustDeskModel_fund_278 : decode kY_TrustDeskModel_fund.2.1 278 = .ok (.bipush 12, 2) := by decide +kernel
theorem d_TrustDeskModel_fund_280 : decode kY_TrustDeskModel_fund.2.1 280 = .ok (.iload 5, 2) := by decide +kernel
theorem d_TrustDeskModel_fund_282 : decode kY_TrustDeskModel_fund.2.1 282 = .ok (.imul, 1) := by decide +kernel
theorem d_TrustDeskModel_fund_283 : decode kY_TrustDeskModel_fund.2.1 283 = .ok (.iload 5, 2) := by decide +kernel
theorem d_TrustDeskModel_fund_285 : decode kY_TrustDeskModel_fund.2.1 285 = .ok (.iadd, 1) := by decide +kernel
theorem d_TrustDeskModel_fund_286 : decode kY_TrustDeskModel_fund.2.1 286 = .ok (.ldc_w 432, 3) := by decide +kernel
theorem k_TrustDeskModel_432 : Cond.constant "TrustDeskModel" 432 1000000 ∈ mj_T := (mj_in1 (List.mem_of_getElem? (i := 1820) (by decide +kernel)) rfl)
theorem d_TrustDeskModel_fund_289 : decode kY_TrustDeskModel_fund.2.1 289 = .ok (.iastore, 1) := by decide +kernel
theorem d_TrustDeskModel_fund_290 : decode kY_TrustDeskModel_fund.2.1 290 = .ok (.aload_n 0, 1) := by decide +kernel
theorem d_TrustDeskModel_fund_291 : decode kY_TrustDeskModel_fund.2.1 291 = .ok (.dup, 1) := by decide +kernel
theorem d_TrustDeskModel_fund_292 : decode kY_TrustDeskModel_fund.2.1 292 = .ok (.getfield 415, 3) := by decide +kernel
theorem d_TrustDeskModel_fund_295 : decode kY_TrustDeskModel_fund.2.1 295 = .ok (.iconst 1, 1) := by decide +kernel
theorem d_TrustDeskModel_fund_296 : decode kY_TrustDeskModel_fund.2.1 296 = .ok (.iadd, 1) := by decide +kernel
theorem d_TrustDeskModel_fund_297 : decode kY_TrustDeskModel_fund.2.1 297 = .ok (.putfield 415, 3) := by decide +kernel
theorem p_TrustDeskModel_415_13 : mj_fp "TrustDeskModel" 415 13 32 (kt_TrustDeskModel 32) false := ⟨kR_TrustDeskModel, kF_TrustDeskModel, 72, "TrustDeskModel", kt_TrustDeskModel, rfl, kg_13, by decide, (mj_in1 (List.mem_of_getElem? (i := 1418) (by decide +kernel)) rfl), Or.inl rfl, kto_TrustDeskModel, kn_TrustDeskModel, rfl, rfl, fun h => by cases h⟩
theorem d_TrustDeskModel_fund_300 : decode kY_TrustDeskModel_fund.2.1 300 = .ok (.iload 5, 2) := by decide +kernel
theorem d_TrustDeskModel_fund_302 : decode kY_TrustDeskModel_fund.2.1 302 = .ok (.ireturn, 1) := by decide +kernel
theorem d_TrustDeskModel_fund_166 : decode kY_TrustDeskModel_fund.2.1 166 = .ok (.bipush 20, 2) := by decide +kernel
theorem d_TrustDeskModel_fund_168 : decode kY_TrustDeskModel_fund.2.1 168 = .ok (.iload_n 3, 1) := by decide +kernel
theorem d_TrustDeskModel_fund_169 : decode kY_TrustDeskModel_fund.2.1 169 = .ok (.imul, 1) := by decide +kernel
theorem d_TrustDeskModel_fund_170 : decode kY_TrustDeskModel_fund.2.1 170 = .ok (.iload 6, 2) := by decide +kernel
theorem d_TrustDeskModel_fund_172 : decode kY_TrustDeskModel_fund.2.1 172 = .ok (.iadd, 1) := by decide +kernel
theorem d_TrustDeskModel_fund_173 : decode kY_TrustDeskModel_fund.2.1 173 = .ok (.istore 7, 2) := by decide +kernel
theorem d_TrustDeskModel_fund_175 : decode kY_TrustDeskModel_fund.2.1 175 = .ok (.aload_n 0, 1) := by decide +kernel
theorem d_TrustDeskModel_fund_176 : decode kY_TrustDeskModel_fund.2.1 176 = .ok (.getfield 26, 3) := by decide +kernel
theorem d_TrustDeskModel_fund_179 : decode kY_TrustDeskModel_fund.2.1 179 = .ok (.iload 7, 2) := by decide +kernel
theorem d_TrustDeskModel_fund_181 : decode kY_TrustDeskModel_fund.2.1 181 = .ok (.iaload, 1) := by decide +kernel
theorem d_TrustDeskModel_fund_182 : decode kY_TrustDeskModel_fund.2.1 182 = .ok (.bipush 7, 2) := by decide +kernel
theorem d_TrustDeskModel_fund_184 : decode kY_TrustDeskModel_fund.2.1 184 = .ok (.if_icmp .ne 20, 3) := by decide +kernel
theorem d_TrustDeskModel_fund_204 : decode kY_TrustDeskModel_fund.2.1 204 = .ok (.aload_n 0, 1) := by decide +kernel
theorem d_TrustDeskModel_fund_205 : decode kY_TrustDeskModel_fund.2.1 205 = .ok (.getfield 26, 3) := by decide +kernel
theorem d_TrustDeskModel_fund_208 : decode kY_TrustDeskModel_fund.2.1 208 = .ok (.iload 7, 2) := by decide +kernel
theorem d_TrustDeskModel_fund_210 : decode kY_TrustDeskModel_fund.2.1 210 = .ok (.iaload, 1) := by decide +kernel
theorem d_TrustDeskModel_fund_211 : decode kY_TrustDeskModel_fund.2.1 211 = .ok (.bipush 9, 2) := by decide +kernel
theorem d_TrustDeskModel_fund_213 : decode kY_TrustDeskModel_fund.2.1 213 = .ok (.if_icmp .ne 31, 3) := by decide +kernel
theorem d_TrustDeskModel_fund_244 : decode kY_TrustDeskModel_fund.2.1 244 = .ok (.aload_n 0, 1) := by decide +kernel
theorem d_TrustDeskModel_fund_245 : decode kY_TrustDeskModel_fund.2.1 245 = .ok (.getfield 26, 3) := by decide +kernel
theorem d_TrustDeskModel_fund_248 : decode kY_TrustDeskModel_fund.2.1 248 = .ok (.iload 7, 2) := by decide +kernel
theorem d_TrustDeskModel_fund_250 : decode kY_TrustDeskModel_fund.2.1 250 = .ok (.iaload, 1) := by decide +kernel
theorem d_TrustDeskModel_fund_251 : decode kY_TrustDeskModel_fund.2.1 251 = .ok (.bipush 8, 2) := by decide +kernel
theorem d_TrustDeskModel_fund_253 : decode kY_TrustDeskModel_fund.2.1 253 = .ok (.if_icmp .ne 15, 3) := by decide +kernel
theorem d_TrustDeskModel_fund_268 : decode kY_TrustDeskModel_fund.2.1 268 = .ok (.iinc 6 1, 3) := by decide +kernel
theorem d_TrustDeskModel_fund_271 : decode kY_TrustDeskModel_fund.2.1 271 = .ok (.goto (-116), 3) := by decide +kernel
theorem d_TrustDeskModel_fund_256 : decode kY_TrustDeskModel_fund.2.1 256 = .ok (.aload_n 0, 1) := by decide +kernel
theorem d_TrustDeskModel_fund_257 : decode kY_TrustDeskModel_fund.2.1 257 = .ok (.iload 5, 2) := by decide +kernel
theorem d_TrustDeskModel_fund_259 : decode kY_TrustDeskModel_fund.2.1 259 = .ok (.iload_n 3, 1) := by decide +kernel
theorem d_TrustDeskModel_fund_260 : decode kY_TrustDeskModel_fund.2.1 260 = .ok (.iload 7, 2) := by decide +kernel
theorem d_TrustDeskModel_fund_262 : decode kY_TrustDeskModel_fund.2.1 262 = .ok (.iconst 0, 1) := by decide +kernel
theorem d_TrustDeskModel_fund_263 : decode kY_TrustDeskModel_fund.2.1 263 = .ok (.iconst 0, 1) := by decide +kernel
theorem d_TrustDeskModel_fund_264 : decode kY_TrustDeskModel_fund.2.1 264 = .ok (.iconst (-1), 1) := by decide +kernel
theorem d_TrustDeskModel_fund_265 : decode kY_TrustDeskModel_fund.2.1 265 = .ok (.invokevirtual 428, 3) := by decide +kernel
abbrev kY_TrustDeskModel_addEnd : mj_Y := (⟨"TrustDeskModel", "addEnd", "(IIIIII)V"⟩, prog_14_method_54_code, 8, (Option.none : Option Jvm.ClassFile.FieldType))
theorem d_TrustDeskModel_addEnd_0 : decode kY_TrustDeskModel_addEnd.2.1 0 = .ok (.bipush 80, 2) := by decide +kernel
theorem d_TrustDeskModel_addEnd_2 : decode kY_TrustDeskModel_addEnd.2.1 2 = .ok (.iload_n 1, 1) := by decide +kernel
theorem d_TrustDeskModel_addEnd_3 : decode kY_TrustDeskModel_addEnd.2.1 3 = .ok (.imul, 1) := by decide +kernel
theorem d_TrustDeskModel_addEnd_4 : decode kY_TrustDeskModel_addEnd.2.1 4 = .ok (.aload_n 0, 1) := by decide +kernel
theorem d_TrustDeskModel_addEnd_5 : decode kY_TrustDeskModel_addEnd.2.1 5 = .ok (.getfield 98, 3) := by decide +kernel
theorem f_TrustDeskModel_98_13 : mj_fl "TrustDeskModel" 98 13 43 := ⟨kR_TrustDeskModel, kF_TrustDeskModel, 72, "TrustDeskModel", rfl, kg_13, by decide, (mj_in1 (List.mem_of_getElem? (i := 1429) (by decide +kernel)) rfl), Or.inl rfl⟩
theorem d_TrustDeskModel_addEnd_8 : decode kY_TrustDeskModel_addEnd.2.1 8 = .ok (.iload_n 1, 1) := by decide +kernel
theorem d_TrustDeskModel_addEnd_9 : decode kY_TrustDeskModel_addEnd.2.1 9 = .ok (.iaload, 1) := by decide +kernel
theorem d_TrustDeskModel_addEnd_10 : decode kY_TrustDeskModel_addEnd.2.1 10 = .ok (.iadd, 1) := by decide +kernel
theorem d_TrustDeskModel_addEnd_11 : decode kY_TrustDeskModel_addEnd.2.1 11 = .ok (.istore 7, 2) := by decide +kernel
theorem d_TrustDeskModel_addEnd_13 : decode kY_TrustDeskModel_addEnd.2.1 13 = .ok (.aload_n 0, 1) := by decide +kernel
theorem d_TrustDeskModel_addEnd_14 : decode kY_TrustDeskModel_addEnd.2.1 14 = .ok (.getfield 101, 3) := by decide +kernel
theorem f_TrustDeskModel_101_13 : mj_fl "TrustDeskModel" 101 13 44 := ⟨kR_TrustDeskModel, kF_TrustDeskModel, 72, "TrustDeskModel", rfl, kg_13, by decide, (mj_in1 (List.mem_of_getElem? (i := 1430) (by decide +kernel)) rfl), Or.inl rfl⟩
theorem d_TrustDeskModel_addEnd_17 : decode kY_TrustDeskModel_addEnd.2.1 17 = .ok (.iload 7, 2) := by decide +kernel
theorem d_TrustDeskModel_addEnd_19 : decode kY_TrustDeskModel_addEnd.2.1 19 = .ok (.iload_n 2, 1) := by decide +kernel
theorem d_TrustDeskModel_addEnd_20 : decode kY_TrustDeskModel_addEnd.2.1 20 = .ok (.iastore, 1) := by decide +kernel
theorem d_TrustDeskModel_addEnd_21 : decode kY_TrustDeskModel_addEnd.2.1 21 = .ok (.aload_n 0, 1) := by decide +kernel
theorem d_TrustDeskModel_addEnd_22 : decode kY_TrustDeskModel_addEnd.2.1 22 = .ok (.getfield 104, 3) := by decide +kernel
theorem f_TrustDeskModel_104_13 : mj_fl "TrustDeskModel" 104 13 45 := ⟨kR_TrustDeskModel, kF_TrustDeskModel, 72, "TrustDeskModel", rfl, kg_13, by decide, (mj_in1 (List.mem_of_getElem? (i := 1431) (by decide +kernel)) rfl), Or.inl rfl⟩
theorem d_TrustDeskModel_addEnd_25 : decode kY_TrustDeskModel_addEnd.2.1 25 = .ok (.iload 7, 2) := by decide +kernel
theorem d_TrustDeskModel_addEnd_27 : decode kY_TrustDeskModel_addEnd.2.1 27 = .ok (.iload_n 3, 1) := by decide +kernel
theorem d_TrustDeskModel_addEnd_28 : decode kY_TrustDeskModel_addEnd.2.1 28 = .ok (.iastore, 1) := by decide +kernel
theorem d_TrustDeskModel_addEnd_29 : decode kY_TrustDeskModel_addEnd.2.1 29 = .ok (.aload_n 0, 1) := by decide +kernel
theorem d_TrustDeskModel_addEnd_30 : decode kY_TrustDeskModel_addEnd.2.1 30 = .ok (.getfield 107, 3) := by decide +kernel
theorem f_TrustDeskModel_107_13 : mj_fl "TrustDeskModel" 107 13 46 := ⟨kR_TrustDeskModel, kF_TrustDeskModel, 72, "TrustDeskModel", rfl, kg_13, by decide, (mj_in1 (List.mem_of_getElem? (i := 1432) (by decide +kernel)) rfl), Or.inl rfl⟩
theorem d_TrustDeskModel_addEnd_33 : decode kY_TrustDeskModel_addEnd.2.1 33 = .ok (.iload 7, 2) := by decide +kernel
theorem d_TrustDeskModel_addEnd_35 : decode kY_TrustDeskModel_addEnd.2.1 35 = .ok (.iload 4, 2) := by decide +kernel
theorem d_TrustDeskModel_addEnd_37 : decode kY_TrustDeskModel_addEnd.2.1 37 = .ok (.iastore, 1) := by decide +kernel
theorem d_TrustDeskModel_addEnd_38 : decode kY_TrustDeskModel_addEnd.2.1 38 = .ok (.aload_n 0, 1) := by decide +kernel
theorem d_TrustDeskModel_addEnd_39 : decode kY_TrustDeskModel_addEnd.2.1 39 = .ok (.getfield 110, 3) := by decide +kernel
theorem f_TrustDeskModel_110_13 : mj_fl "TrustDeskModel" 110 13 47 := ⟨kR_TrustDeskModel, kF_TrustDeskModel, 72, "TrustDeskModel", rfl, kg_13, by decide, (mj_in1 (List.mem_of_getElem? (i := 1433) (by decide +kernel)) rfl), Or.inl rfl⟩
theorem d_TrustDeskModel_addEnd_42 : decode kY_TrustDeskModel_addEnd.2.1 42 = .ok (.iload 7, 2) := by decide +kernel
theorem d_TrustDeskModel_addEnd_44 : decode kY_TrustDeskModel_addEnd.2.1 44 = .ok (.iload 5, 2) := by decide +kernel
theorem d_TrustDeskModel_addEnd_46 : decode kY_TrustDeskModel_addEnd.2.1 46 = .ok (.iastore, 1) := by decide +kernel
theorem d_TrustDeskModel_addEnd_47 : decode kY_TrustDeskModel_addEnd.2.1 47 = .ok (.aload_n 0, 1) := by decide +kernel
theorem d_TrustDeskModel_addEnd_48 : decode kY_TrustDeskModel_addEnd.2.1 48 = .ok (.getfield 113, 3) := by decide +kernel
theorem f_TrustDeskModel_113_13 : mj_fl "TrustDeskModel" 113 13 48 := ⟨kR_TrustDeskModel, kF_TrustDeskModel, 72, "TrustDeskModel", rfl, kg_13, by decide, (mj_in1 (List.mem_of_getElem? (i := 1434) (by decide +kernel)) rfl), Or.inl rfl⟩
theorem d_TrustDeskModel_addEnd_51 : decode kY_TrustDeskModel_addEnd.2.1 51 = .ok (.iload 7, 2) := by decide +kernel
theorem d_TrustDeskModel_addEnd_53 : decode kY_TrustDeskModel_addEnd.2.1 53 = .ok (.iload 6, 2) := by decide +kernel
theorem d_TrustDeskModel_addEnd_55 : decode kY_TrustDeskModel_addEnd.2.1 55 = .ok (.iastore, 1) := by decide +kernel
theorem d_TrustDeskModel_addEnd_56 : decode kY_TrustDeskModel_addEnd.2.1 56 = .ok (.aload_n 0, 1) := by decide +kernel
theorem d_TrustDeskModel_addEnd_57 : decode kY_TrustDeskModel_addEnd.2.1 57 = .ok (.getfield 98, 3) := by decide +kernel
theorem d_TrustDeskModel_addEnd_60 : decode kY_TrustDeskModel_addEnd.2.1 60 = .ok (.iload_n 1, 1) := by decide +kernel
theorem d_TrustDeskModel_addEnd_61 : decode kY_TrustDeskModel_addEnd.2.1 61 = .ok (.dup2, 1) := by decide +kernel
theorem d_TrustDeskModel_addEnd_62 : decode kY_TrustDeskModel_addEnd.2.1 62 = .ok (.iaload, 1) := by decide +kernel
theorem d_TrustDeskModel_addEnd_63 : decode kY_TrustDeskModel_addEnd.2.1 63 = .ok (.iconst 1, 1) := by decide +kernel
theorem d_TrustDeskModel_addEnd_64 : decode kY_TrustDeskModel_addEnd.2.1 64 = .ok (.iadd, 1) := by decide +kernel
theorem d_TrustDeskModel_addEnd_65 : decode kY_TrustDeskModel_addEnd.2.1 65 = .ok (.iastore, 1) := by decide +kernel
theorem d_TrustDeskModel_addEnd_66 : decode kY_TrustDeskModel_addEnd.2.1 66 = .ok (.return_, 1) := by decide +kernel
def w_TrustDeskModel_addEnd_x : List Nat := [20043, 20044, 20045, 20046, 20047, 20048]
set_option maxHeartbeats 100000000 in theorem tc_TrustDeskModel_addEnd_x {g : mj_G} {l : Launch} {d : Nat} {T0 : tm_H} {M0 : mj_M} {n0 x9 : Nat} {o0 : Nat} {x1 : Int32} {x2 : Int32} {x3 : Int32} {x4 : Int32} {x5 : Int32} {x6 : Int32} (h_o0 : T0 o0 = some (0, 13, 0)) (hn0 : 0 ≤ x1.toInt ∧ x1.toInt ≤ 11) (hn1 : 0 ≤ x2.toInt ∧ x2.toInt ≤ 43) (hn2 : 0 ≤ x3.toInt ∧ x3.toInt ≤ 899) (yR : rI M0 o0) (ya : ra M0 o0 43 x1.toNatClampNeg ≤ 71) (I0 : tm_I tm_FT (tm_in w_TrustDeskModel_addEnd_x) x9 T0 M0 n0 T0 M0 n0) : mj_Met g l kY_TrustDeskModel_addEnd d [.ref o0, .int x1, .int x2, .int x3, .int x4, .int x5, .int x6] M0 n0 0 0 (tm_Q tm_FT (tm_in w_TrustDeskModel_addEnd_x) x9 T0 M0 n0 (fun r _ M => r = none ∧ rI M o0 ∧ (rAd M0 M o0 x1.toNatClampNeg x2.toInt x3.toInt))) := by
  refine mj_enter (by decide) (Nat.le_of_ble_eq_true rfl) ?_
  have K1 : sA [43] M0 M0 o0 := sA.rf
  have K2 : sA [44] M0 M0 o0 := sA.rf
  have K3 : sA [45] M0 M0 o0 := sA.rf
  refine mv_bipush (v := 80) d_TrustDeskModel_addEnd_0 (by decide) ?_
  refine mv_iload_n d_TrustDeskModel_addEnd_2 rfl rfl ?_
  refine mv_imul d_TrustDeskModel_addEnd_3 ?_
  refine mv_aload_n d_TrustDeskModel_addEnd_4 rfl rfl ?_
  obtain ⟨a5, q4, t_a5⟩ := tm_atR I0 h_o0 (k := 43) rfl
  refine tr_getK q4 d_TrustDeskModel_addEnd_5 f_TrustDeskModel_98_13 ?_
  refine mv_iload_n d_TrustDeskModel_addEnd_8 rfl rfl ?_
  refine tr_ialdR (o := o0) (k := 43) I0 q4 t_a5 (by decide) d_TrustDeskModel_addEnd_9 (vp_in_iff.mpr (by omega)) (fun v6 e7 => ?_)
  have := yR.a (k := 43) rfl (x1 : Int32).toNatClampNeg
  refine mv_iadd d_TrustDeskModel_addEnd_10 ?_
  refine mv_istore (lv' := [(7, .int ((80 * x1) + v6)), (0, .ref o0), (1, .int x1), (2, .int x2), (3, .int x3), (4, .int x4), (5, .int x5), (6, .int x6)]) d_TrustDeskModel_addEnd_11 (by decide) rfl ?_
  refine mv_aload_n d_TrustDeskModel_addEnd_13 rfl rfl ?_
  obtain ⟨a9, q8, t_a9⟩ := tm_atR I0 h_o0 (k := 44) rfl
  refine tr_getK q8 d_TrustDeskModel_addEnd_14 f_TrustDeskModel_101_13 ?_
  refine mv_iload d_TrustDeskModel_addEnd_17 rfl ?_
  refine mv_iload_n d_TrustDeskModel_addEnd_19 rfl rfl ?_
  have b10 : (80 * x1 : Int32).toInt = (80 * x1.toInt) := mz_mul2 (by decide) rfl (by omega) (by omega)
  have b11 : ((80 * x1) + v6 : Int32).toInt = ((80 * x1.toInt) + v6.toInt) := mz_add2 b10 rfl (by omega) (by omega)
  refine tr_iastR (k := 44) I0 yR (I0.up h_o0) q8 t_a9 (by decide) (by decide) (fun lo hi h => by cases h; exact ⟨by show (0 : Int) ≤ x2.toInt; omega, by show x2.toInt ≤ (43 : Int); omega⟩) (Or.inl (by decide)) d_TrustDeskModel_addEnd_20 (vp_in_iff.mpr (by omega)) (fun M12 I13 K14 R15 E16 A17 V18 => ?_)
  have z19 := (A17 43 (by decide) rfl x1.toNatClampNeg)
  have K20 : sA [43] M0 M12 o0 := K1.trans (sA_a A17 (by decide +kernel))
  have K21 : sA [45] M0 M12 o0 := K3.trans (sA_a A17 (by decide +kernel))
  have K22 : ∀ i : Nat, ra M12 o0 44 i = if (i : Int) = 80 * x1.toNatClampNeg + ra M0 o0 43 x1.toNatClampNeg then x2.toInt else ra M0 o0 44 i := fun i => by have e9 := ad_of E16 (show ((((80 * x1) + v6)).toNatClampNeg : Int) = 80 * x1.toNatClampNeg + ra M0 o0 43 x1.toNatClampNeg by have := mz_nat9 (i := ((80 * x1) + v6)) (by omega); have := mz_nat9 (i := x1) (by omega); omega) i; have e8 := K2 44 rfl; rw [e8] at e9; exact e9
  refine mv_aload_n d_TrustDeskModel_addEnd_21 rfl rfl ?_
  obtain ⟨a24, q23, t_a24⟩ := tm_atR I13 h_o0 (k := 45) rfl
  refine tr_getK q23 d_TrustDeskModel_addEnd_22 f_TrustDeskModel_104_13 ?_
  refine mv_iload d_TrustDeskModel_addEnd_25 rfl ?_
  refine mv_iload_n d_TrustDeskModel_addEnd_27 rfl rfl ?_
  have b25 : (80 * x1 : Int32).toInt = (80 * x1.toInt) := mz_mul2 (by decide) rfl (by omega) (by omega)
  have b26 : ((80 * x1) + v6 : Int32).toInt = ((80 * x1.toInt) + v6.toInt) := mz_add2 b25 rfl (by omega) (by omega)
  refine tr_iastR (k := 45) I13 R15 (I13.up h_o0) q23 t_a24 (by decide) (by decide) (fun lo hi h => by cases h; exact ⟨by show (0 : Int) ≤ x3.toInt; omega, by show x3.toInt ≤ (899 : Int); omega⟩) (Or.inl (by decide)) d_TrustDeskModel_addEnd_28 (vp_in_iff.mpr (by omega)) (fun M27 I28 K29 R30 E31 A32 V33 => ?_)
  have z34 := (A32 43 (by decide) rfl x1.toNatClampNeg).trans z19
  have K35 : sA [43] M0 M27 o0 := K20.trans (sA_a A32 (by decide +kernel))
  have K36 : ∀ i : Nat, ra M27 o0 44 i = if (i : Int) = 80 * x1.toNatClampNeg + ra M0 o0 43 x1.toNatClampNeg then x2.toInt else ra M0 o0 44 i := (by have e9 := ((sA_a A32 (by decide +kernel)) : sA [44] _ _ _) 44 rfl; rw [e9]; exact K22)
  have K37 : ∀ i : Nat, ra M27 o0 45 i = if (i : Int) = 80 * x1.toNatClampNeg + ra M0 o0 43 x1.toNatClampNeg then x3.toInt else ra M0 o0 45 i := fun i => by have e9 := ad_of E31 (show ((((80 * x1) + v6)).toNatClampNeg : Int) = 80 * x1.toNatClampNeg + ra M0 o0 43 x1.toNatClampNeg by have := mz_nat9 (i := ((80 * x1) + v6)) (by omega); have := mz_nat9 (i := x1) (by omega); omega) i; have e8 := K21 45 rfl; rw [e8] at e9; exact e9
  clear z19
  refine mv_aload_n d_TrustDeskModel_addEnd_29 rfl rfl ?_
  obtain ⟨a39, q38, t_a39⟩ := tm_atR I28 h_o0 (k := 46) rfl
  refine tr_getK q38 d_TrustDeskModel_addEnd_30 f_TrustDeskModel_107_13 ?_
  refine mv_iload d_TrustDeskModel_addEnd_33 rfl ?_
  refine mv_iload d_TrustDeskModel_addEnd_35 rfl ?_
  have b40 : (80 * x1 : Int32).toInt = (80 * x1.toInt) := mz_mul2 (by decide) rfl (by omega) (by omega)
  have b41 : ((80 * x1) + v6 : Int32).toInt = ((80 * x1.toInt) + v6.toInt) := mz_add2 b40 rfl (by omega) (by omega)
  refine tr_iastR (k := 46) I28 R30 (I28.up h_o0) q38 t_a39 (by decide) (by decide) (fun lo hi h => by cases h) (Or.inl (by decide)) d_TrustDeskModel_addEnd_37 (vp_in_iff.mpr (by omega)) (fun M42 I43 K44 R45 E46 A47 V48 => ?_)
  have z49 := (A47 43 (by decide) rfl x1.toNatClampNeg).trans z34
  have K50 : sA [43] M0 M42 o0 := K35.trans (sA_a A47 (by decide +kernel))
  have K51 : ∀ i : Nat, ra M42 o0 44 i = if (i : Int) = 80 * x1.toNatClampNeg + ra M0 o0 43 x1.toNatClampNeg then x2.toInt else ra M0 o0 44 i := (by have e9 := ((sA_a A47 (by decide +kernel)) : sA [44] _ _ _) 44 rfl; rw [e9]; exact K36)
  have K52 : ∀ i : Nat, ra M42 o0 45 i = if (i : Int) = 80 * x1.toNatClampNeg + ra M0 o0 43 x1.toNatClampNeg then x3.toInt else ra M0 o0 45 i := (by have e9 := ((sA_a A47 (by decide +kernel)) : sA [45] _ _ _) 45 rfl; rw [e9]; exact K37)
  clear z34
  refine mv_aload_n d_TrustDeskModel_addEnd_38 rfl rfl ?_
  obtain ⟨a54, q53, t_a54⟩ := tm_atR I43 h_o0 (k := 47) rfl
  refine tr_getK q53 d_TrustDeskModel_addEnd_39 f_TrustDeskModel_110_13 ?_
  refine mv_iload d_TrustDeskModel_addEnd_42 rfl ?_
  refine mv_iload d_TrustDeskModel_addEnd_44 rfl ?_
  have b55 : (80 * x1 : Int32).toInt = (80 * x1.toInt) := mz_mul2 (by decide) rfl (by omega) (by omega)
  have b56 : ((80 * x1) + v6 : Int32).toInt = ((80 * x1.toInt) + v6.toInt) := mz_add2 b55 rfl (by omega) (by omega)
  refine tr_iastR (k := 47) I43 R45 (I43.up h_o0) q53 t_a54 (by decide) (by decide) (fun lo hi h => by cases h) (Or.inl (by decide)) d_TrustDeskModel_addEnd_46 (vp_in_iff.mpr (by omega)) (fun M57 I58 K59 R60 E61 A62 V63 => ?_)
  have z64 := (A62 43 (by decide) rfl x1.toNatClampNeg).trans z49
  have K65 : sA [43] M0 M57 o0 := K50.trans (sA_a A62 (by decide +kernel))
  have K66 : ∀ i : Nat, ra M57 o0 44 i = if (i : Int) = 80 * x1.toNatClampNeg + ra M0 o0 43 x1.toNatClampNeg then x2.toInt else ra M0 o0 44 i := (by have e9 := ((sA_a A62 (by decide +kernel)) : sA [44] _ _ _) 44 rfl; rw [e9]; exact K51)
  have K67 : ∀ i : Nat, ra M57 o0 45 i = if (i : Int) = 80 * x1.toNatClampNeg + ra M0 o0 43 x1.toNatClampNeg then x3.toInt else ra M0 o0 45 i := (by have e9 := ((sA_a A62 (by decide +kernel)) : sA [45] _ _ _) 45 rfl; rw [e9]; exact K52)
  clear z49
  refine mv_aload_n d_TrustDeskModel_addEnd_47 rfl rfl ?_
  obtain ⟨a69, q68, t_a69⟩ := tm_atR I58 h_o0 (k := 48) rfl
  refine tr_getK q68 d_TrustDeskModel_addEnd_48 f_TrustDeskModel_113_13 ?_
  refine mv_iload d_TrustDeskModel_addEnd_51 rfl ?_
  refine mv_iload d_TrustDeskModel_addEnd_53 rfl ?_
  have b70 : (80 * x1 : Int32).toInt = (80 * x1.toInt) := mz_mul2 (by decide) rfl (by omega) (by omega)
  have b71 : ((80 * x1) + v6 : Int32).toInt = ((80 * x1.toInt) + v6.toInt) := mz_add2 b70 rfl (by omega) (by omega)
  refine tr_iastR (k := 48) I58 R60 (I58.up h_o0) q68 t_a69 (by decide) (by decide) (fun lo hi h => by cases h) (Or.inl (by decide)) d_TrustDeskModel_addEnd_55 (vp_in_iff.mpr (by omega)) (fun M72 I73 K74 R75 E76 A77 V78 => ?_)
  have z79 := (A77 43 (by decide) rfl x1.toNatClampNeg).trans z64
  have K80 : sA [43] M0 M72 o0 := K65.trans (sA_a A77 (by decide +kernel))
  have K81 : ∀ i : Nat, ra M72 o0 44 i = if (i : Int) = 80 * x1.toNatClampNeg + ra M0 o0 43 x1.toNatClampNeg then x2.toInt else ra M0 o0 44 i := (by have e9 := ((sA_a A77 (by decide +kernel)) : sA [44] _ _ _) 44 rfl; rw [e9]; exact K66)
  have K82 : ∀ i : Nat, ra M72 o0 45 i = if (i : Int) = 80 * x1.toNatClampNeg + ra M0 o0 43 x1.toNatClampNeg then x3.toInt else ra M0 o0 45 i := (by have e9 := ((sA_a A77 (by decide +kernel)) : sA [45] _ _ _) 45 rfl; rw [e9]; exact K67)
  clear z64
  refine mv_aload_n d_TrustDeskModel_addEnd_56 rfl rfl ?_
  refine tr_getK (k := 43) (K74 _ 13 43 _ (K59 _ 13 43 _ (K44 _ 13 43 _ (K29 _ 13 43 _ (K14 _ 13 43 _ q4))))) d_TrustDeskModel_addEnd_57 f_TrustDeskModel_98_13 ?_
  refine mv_iload_n d_TrustDeskModel_addEnd_60 rfl rfl ?_
  refine mv_dup2_11 d_TrustDeskModel_addEnd_61 rfl rfl ?_
  refine tr_ialdR (o := o0) (k := 43) I73 (K74 _ 13 43 _ (K59 _ 13 43 _ (K44 _ 13 43 _ (K29 _ 13 43 _ (K14 _ 13 43 _ q4))))) t_a5 (by decide) d_TrustDeskModel_addEnd_62 (vp_in_iff.mpr (by omega)) (fun v83 e84 => ?_)
  have := R75.a (k := 43) rfl (x1 : Int32).toNatClampNeg
  have : v83.toInt = _ := Eq.trans e84 z79
  refine mv_iconst (v := 1) d_TrustDeskModel_addEnd_63 (by decide) ?_
  refine mv_iadd d_TrustDeskModel_addEnd_64 ?_
  have b85 : (v83 + 1 : Int32).toInt = (v83.toInt + 1) := mz_add2 rfl (by decide) (by omega) (by omega)
  refine tr_iastR (k := 43) I73 R75 (I73.up h_o0) (K74 _ 13 43 _ (K59 _ 13 43 _ (K44 _ 13 43 _ (K29 _ 13 43 _ (K14 _ 13 43 _ q4))))) t_a5 (by decide) (by decide) (fun lo hi h => by cases h; exact ⟨by show (0 : Int) ≤ (v83 + 1).toInt; omega, by show (v83 + 1).toInt ≤ (72 : Int); omega⟩) (Or.inl (by decide)) d_TrustDeskModel_addEnd_65 (vp_in_iff.mpr (by omega)) (fun M86 I87 K88 R89 E90 A91 V92 => ?_)
  have K93 : ∀ i : Nat, ra M86 o0 44 i = if (i : Int) = 80 * x1.toNatClampNeg + ra M0 o0 43 x1.toNatClampNeg then x2.toInt else ra M0 o0 44 i := (by have e9 := ((sA_a A91 (by decide +kernel)) : sA [44] _ _ _) 44 rfl; rw [e9]; exact K81)
  have K94 : ∀ i : Nat, ra M86 o0 45 i = if (i : Int) = 80 * x1.toNatClampNeg + ra M0 o0 43 x1.toNatClampNeg then x3.toInt else ra M0 o0 45 i := (by have e9 := ((sA_a A91 (by decide +kernel)) : sA [45] _ _ _) 45 rfl; rw [e9]; exact K82)
  have K95 : ∀ i : Nat, ra M86 o0 43 i = if i = x1.toNatClampNeg then ra M0 o0 43 x1.toNatClampNeg + 1 else ra M0 o0 43 i := fun i => by have e9 := K80 43 rfl; rw [E90 i, e9]; by_cases h9 : i = x1.toNatClampNeg; (rw [if_pos h9, if_pos h9]; omega); (rw [if_neg h9, if_neg h9])
  exact mv_vret d_TrustDeskModel_addEnd_66 rfl ⟨_, I87, rfl, R89, ⟨K93, K94, K95⟩⟩
theorem lV_TrustDeskModel_428 : mj_lV "TrustDeskModel" 428 kY_TrustDeskModel_addEnd 6 := ⟨⟨(mj_in1 (List.mem_of_getElem? (i := 1816) (by decide +kernel)) rfl), (mj_in1 (List.mem_of_getElem? (i := 10) (by decide +kernel)) rfl), (mj_in1 (List.mem_of_getElem? (i := 1819) (by decide +kernel)) rfl), by decide, rfl, by decide⟩, (mj_in1 (List.mem_of_getElem? (i := 1818) (by decide +kernel)) rfl), (mj_in (List.mem_append_left _ (List.mem_of_getElem? (i := 110) (by decide +kernel))) rfl)⟩
theorem d_TrustDeskModel_fund_216 : decode kY_TrustDeskModel_fund.2.1 216 = .ok (.aload_n 0, 1) := by decide +kernel
theorem d_TrustDeskModel_fund_217 : decode kY_TrustDeskModel_fund.2.1 217 = .ok (.getfield 82, 3) := by decide +kernel
theorem d_TrustDeskModel_fund_220 : decode kY_TrustDeskModel_fund.2.1 220 = .ok (.iload 5, 2) := by decide +kernel
theorem d_TrustDeskModel_fund_222 : decode kY_TrustDeskModel_fund.2.1 222 = .ok (.aload_n 0, 1) := by decide +kernel
theorem d_TrustDeskModel_fund_223 : decode kY_TrustDeskModel_fund.2.1 223 = .ok (.getfield 29, 3) := by decide +kernel
theorem d_TrustDeskModel_fund_226 : decode kY_TrustDeskModel_fund.2.1 226 = .ok (.iload 7, 2) := by decide +kernel
theorem d_TrustDeskModel_fund_228 : decode kY_TrustDeskModel_fund.2.1 228 = .ok (.iaload, 1) := by decide +kernel
theorem d_TrustDeskModel_fund_229 : decode kY_TrustDeskModel_fund.2.1 229 = .ok (.iastore, 1) := by decide +kernel
theorem d_TrustDeskModel_fund_230 : decode kY_TrustDeskModel_fund.2.1 230 = .ok (.aload_n 0, 1) := by decide +kernel
theorem d_TrustDeskModel_fund_231 : decode kY_TrustDeskModel_fund.2.1 231 = .ok (.getfield 85, 3) := by decide +kernel
theorem d_TrustDeskModel_fund_234 : decode kY_TrustDeskModel_fund.2.1 234 = .ok (.iload 5, 2) := by decide +kernel
theorem d_TrustDeskModel_fund_236 : decode kY_TrustDeskModel_fund.2.1 236 = .ok (.aload_n 0, 1) := by decide +kernel
theorem d_TrustDeskModel_fund_237 : decode kY_TrustDeskModel_fund.2.1 237 = .ok (.getfield 32, 3) := by decide +kernel
theorem d_TrustDeskModel_fund_240 : decode kY_TrustDeskModel_fund.2.1 240 = .ok (.iload 7, 2) := by decide +kernel
theorem d_TrustDeskModel_fund_242 : decode kY_TrustDeskModel_fund.2.1 242 = .ok (.iaload, 1) := by decide +kernel
theorem d_TrustDeskModel_fund_243 : decode kY_TrustDeskModel_fund.2.1 243 = .ok (.iastore, 1) := by decide +kernel
theorem d_TrustDeskModel_fund_187 : decode kY_TrustDeskModel_fund.2.1 187 = .ok (.aload_n 0, 1) := by decide +kernel
theorem d_TrustDeskModel_fund_188 : decode kY_TrustDeskModel_fund.2.1 188 = .ok (.getfield 76, 3) := by decide +kernel
theorem d_TrustDeskModel_fund_191 : decode kY_TrustDeskModel_fund.2.1 191 = .ok (.iload 5, 2) := by decide +kernel
theorem d_TrustDeskModel_fund_193 : decode kY_TrustDeskModel_fund.2.1 193 = .ok (.dup2, 1) := by decide +kernel
theorem d_TrustDeskModel_fund_194 : decode kY_TrustDeskModel_fund.2.1 194 = .ok (.iaload, 1) := by decide +kernel
theorem d_TrustDeskModel_fund_195 : decode kY_TrustDeskModel_fund.2.1 195 = .ok (.aload_n 0, 1) := by decide +kernel
theorem d_TrustDeskModel_fund_196 : decode kY_TrustDeskModel_fund.2.1 196 = .ok (.getfield 29, 3) := by decide +kernel
theorem d_TrustDeskModel_fund_199 : decode kY_TrustDeskModel_fund.2.1 199 = .ok (.iload 7, 2) := by decide +kernel
theorem d_TrustDeskModel_fund_201 : decode kY_TrustDeskModel_fund.2.1 201 = .ok (.iaload, 1) := by decide +kernel
theorem d_TrustDeskModel_fund_202 : decode kY_TrustDeskModel_fund.2.1 202 = .ok (.ior, 1) := by decide +kernel
theorem d_TrustDeskModel_fund_203 : decode kY_TrustDeskModel_fund.2.1 203 = .ok (.iastore, 1) := by decide +kernel
theorem d_TrustDeskModel_fund_86 : decode kY_TrustDeskModel_fund.2.1 86 = .ok (.iload 4, 2) := by decide +kernel
theorem d_TrustDeskModel_fund_88 : decode kY_TrustDeskModel_fund.2.1 88 = .ok (.ireturn, 1) := by decide +kernel
theorem d_TrustDeskModel_fund_46 : decode kY_TrustDeskModel_fund.2.1 46 = .ok (.invokevirtual 230, 3) := by decide +kernel
theorem d_TrustDeskModel_fund_49 : decode kY_TrustDeskModel_fund.2.1 49 = .ok (.ifCond .eq 17, 3) := by decide +kernel
theorem d_TrustDeskModel_fund_52 : decode kY_TrustDeskModel_fund.2.1 52 = .ok (.aload_n 0, 1) := by decide +kernel
theorem d_TrustDeskModel_fund_53 : decode kY_TrustDeskModel_fund.2.1 53 = .ok (.getfield 198, 3) := by decide +kernel
theorem d_TrustDeskModel_fund_56 : decode kY_TrustDeskModel_fund.2.1 56 = .ok (.ifCond .eq 10, 3) := by decide +kernel
theorem d_TrustDeskModel_fund_59 : decode kY_TrustDeskModel_fund.2.1 59 = .ok (.aload_n 0, 1) := by decide +kernel
theorem d_TrustDeskModel_fund_60 : decode kY_TrustDeskModel_fund.2.1 60 = .ok (.invokevirtual 425, 3) := by decide +kernel
theorem d_TrustDeskModel_fund_63 : decode kY_TrustDeskModel_fund.2.1 63 = .ok (.goto (-18), 3) := by decide +kernel
def w_TrustDeskModel_fund_x : List Nat := [1300, 1314, 1315, 1316, 1317, 1318, 1319, 1320, 1321, 1322, 1323, 1324, 1332, 20004, 20005, 20006, 20007, 20008, 20009, 20010, 20011, 20012, 20025, 20026, 20033, 20034, 20035, 20036, 20037, 20038, 20039, 20041, 20043, 20044, 20045, 20046, 20047, 20048]
set_option maxHeartbeats 100000000 in theorem tc_TrustDeskModel_fund_x {g : mj_G} {l : Launch} {d : Nat} {T0 : tm_H} {M0 : mj_M} {n0 x9 : Nat} {o0 : Nat} {x1 : Int32} {x2 : Int32} (h_o0 : T0 o0 = some (0, 13, 0)) (yR : rI M0 o0) (yC : rC M0 o0 44) (yP : rP M0 o0) (yB : rB M0 o0 12) {pb : Nat → Int} {pn : Nat} (yXT : pX M0 o0 pb pn) (I0 : tm_I tm_FT (tm_in w_TrustDeskModel_fund_x) x9 T0 M0 n0 T0 M0 n0) : mj_Met g l kY_TrustDeskModel_fund (d + 27) [.ref o0, .int x1, .int x2] M0 n0 0 0 (tm_Q tm_FT (tm_in w_TrustDeskModel_fund_x) x9 T0 M0 n0 (fun r _ M => ∃ v : Int32, r = some (.int v) ∧ rI M o0 ∧ (rC M o0 44) ∧ (rP M o0) ∧ (rB M o0 12) ∧ (rv M0 o0 32 ≤ rv M o0 32) ∧ ((v.toInt = -1 ∧ ¬ (0 ≤ x1.toInt ∧ x1.toInt ≤ 999 ∧ 0 ≤ x2.toInt ∧ x2.toInt ≤ 99999 ∧ rv M0 o0 32 ≠ 12) ∧ rv M o0 14 = rv M0 o0 14 ∧ rv M o0 21 = rv M0 o0 21 ∧ rv M o0 32 = rv M0 o0 32) ∨ ((0 ≤ x1.toInt ∧ x1.toInt ≤ 999 ∧ 0 ≤ x2.toInt ∧ x2.toInt ≤ 99999 ∧ rv M0 o0 32 ≠ 12) ∧ rv M o0 14 = 0 ∧ (((p_dee pb pn).2.2.1 = 0 ∧ v.toInt = rv M0 o0 32 ∧ rv M o0 21 = -1 ∧ rv M o0 32 = rv M0 o0 32 + 1) ∨ ((p_dee pb pn).2.2.1 ≠ 0 ∧ v.toInt = -1 - (p_dee pb pn).2.2.1 ∧ rv M o0 21 = ((p_dee pb pn).2.2.2.1 : Int) ∧ rv M o0 32 = rv M0 o0 32)))))) := by
  refine mj_enter (by decide) (Nat.le_of_ble_eq_true rfl) ?_
  have K1 : rC M0 o0 44 := yC
  have K2 : rP M0 o0 := yP
  have K3 : rB M0 o0 12 := yB
  refine mv_aload_n d_TrustDeskModel_fund_0 rfl rfl ?_
  refine mv_iconst (v := 0) d_TrustDeskModel_fund_1 (by decide) ?_
  refine tr_putR (k := 0) I0 yR h_o0 rfl ⟨_, rfl⟩ (fun _ h => by cases h) rfl (fun lo hi h => by cases h) (Or.inl (by decide)) d_TrustDeskModel_fund_2 p_TrustDeskModel_1_13 rfl rfl (fun M4 I5 q6 K7 R8 A9 V10 => ?_)
  have z11 := (V10 15 (by decide))
  have z12 := (V10 16 (by decide))
  have z13 := (V10 17 (by decide))
  have z14 := (V10 19 (by decide))
  have z15 := (V10 22 (by decide))
  have z16 := (V10 24 (by decide))
  have z17 := (V10 27 (by decide))
  have z18 := (V10 32 (by decide))
  have z19 := (V10 49 (by decide))
  have z20 := (V10 14 (by decide))
  have z21 := (V10 21 (by decide))
  have z22 := (A9 5 (by decide) 44)
  have z23 := (A9 6 (by decide) 44)
  have K24 : rC M4 o0 44 := K1.same (sA_f A9 (by decide)) (sF_f V10 (by decide))
  have K25 : rP M4 o0 := K2.same (sA_f A9 (by decide)) (sF_f V10 (by decide))
  have K26 : rB M4 o0 12 := K3.same (sA_f A9 (by decide)) (sF_f V10 (by decide))
  have K27 : pX M4 o0 pb pn := yXT.same (sA_f A9 (by decide)) (sF_f V10 (by decide))
  refine mv_iload_n d_TrustDeskModel_fund_5 rfl rfl ?_
  refine mv_i2l (v := x1.toInt64) d_TrustDeskModel_fund_6 rfl ?_
  refine mv_lconst (v := 0) d_TrustDeskModel_fund_7 (by decide) ?_
  refine mv_ldc2 d_TrustDeskModel_fund_8 k_TrustDeskModel_421 ?_
  refine mv_callS (kc1 := 0) (ks1 := 0) (kc' := 0) (ks' := 0) (As := [.long x1.toInt64, .long 0, .long 999]) (st9 := [.long 999, .long 0, .long x1.toInt64]) d_TrustDeskModel_fund_11 lS_TrustDeskModel_169 (mj_enter (by decide) (Nat.le_of_ble_eq_true rfl) ?_) rfl (Nat.le_of_ble_eq_true rfl) (Nat.le_of_ble_eq_true rfl) (Nat.le_of_ble_eq_true rfl) (hst := rfl) (fun _ _ _ h => h)
  refine mv_lload_n d_TrustDeskModel_within_0 rfl rfl ?_
  refine mv_lload_n d_TrustDeskModel_within_1 rfl rfl ?_
  refine mv_lltZ (tgt := 17) (a := x1.toInt) (b := 0) d_TrustDeskModel_within_2 d_TrustDeskModel_within_3 (by decide) (mz_wide _) (by decide) (fun b28 => ?_) (fun b28 => ?_)
  · refine mv_iconst (v := 0) d_TrustDeskModel_within_17 (by decide) ?_
    refine mv_iret d_TrustDeskModel_within_18 rfl (by decide) ?_
    refine mv_if_eq_t (tgt := 38) d_TrustDeskModel_fund_14 (by decide) (by decide) ?_
    refine mv_iconst (v := (-1)) d_TrustDeskModel_fund_38 (by decide) ?_
    exact mv_iret d_TrustDeskModel_fund_39 rfl (by first | rfl | decide) ⟨_, I5, _, rfl, R8, K24, K25, K26, (by have := R8.1 15 _ _ rfl; have := R8.1 16 _ _ rfl; have := R8.1 19 _ _ rfl; omega), (Or.inl ⟨by decide, by omega, z20, z21, z18⟩)⟩
  · refine mv_lload_n d_TrustDeskModel_within_6 rfl rfl ?_
    refine mv_lload d_TrustDeskModel_within_7 rfl ?_
    refine mv_lgtZ (tgt := 17) (a := x1.toInt) (b := 999) d_TrustDeskModel_within_9 d_TrustDeskModel_within_10 (by decide) (mz_wide _) (by decide) (fun b29 => ?_) (fun b29 => ?_)
    · refine mv_iconst (v := 0) d_TrustDeskModel_within_17 (by decide) ?_
      refine mv_iret d_TrustDeskModel_within_18 rfl (by decide) ?_
      refine mv_if_eq_t (tgt := 38) d_TrustDeskModel_fund_14 (by decide) (by decide) ?_
      refine mv_iconst (v := (-1)) d_TrustDeskModel_fund_38 (by decide) ?_
      exact mv_iret d_TrustDeskModel_fund_39 rfl (by first | rfl | decide) ⟨_, I5, _, rfl, R8, K24, K25, K26, (by have := R8.1 15 _ _ rfl; have := R8.1 16 _ _ rfl; have := R8.1 19 _ _ rfl; omega), (Or.inl ⟨by decide, by omega, z20, z21, z18⟩)⟩
    · refine mv_iconst (v := 1) d_TrustDeskModel_within_13 (by decide) ?_
      refine mv_goto (tgt := 18) d_TrustDeskModel_within_14 (by decide) ?_
      refine mv_iret d_TrustDeskModel_within_18 rfl (by decide) ?_
      refine mv_if_eq_f (tgt := 38) d_TrustDeskModel_fund_14 (by decide) (by decide) ?_
      refine mv_iload_n d_TrustDeskModel_fund_17 rfl rfl ?_
      refine mv_i2l (v := x2.toInt64) d_TrustDeskModel_fund_18 rfl ?_
      refine mv_lconst (v := 0) d_TrustDeskModel_fund_19 (by decide) ?_
      refine mv_ldc2 d_TrustDeskModel_fund_20 k_TrustDeskModel_423 ?_
      refine mv_callS (kc1 := 0) (ks1 := 0) (kc' := 0) (ks' := 0) (As := [.long x2.toInt64, .long 0, .long 99999]) (st9 := [.long 99999, .long 0, .long x2.toInt64]) d_TrustDeskModel_fund_23 lS_TrustDeskModel_169 (mj_enter (by decide) (Nat.le_of_ble_eq_true rfl) ?_) rfl (Nat.le_of_ble_eq_true rfl) (Nat.le_of_ble_eq_true rfl) (Nat.le_of_ble_eq_true rfl) (hst := rfl) (fun _ _ _ h => h)
      refine mv_lload_n d_TrustDeskModel_within_0 rfl rfl ?_
      refine mv_lload_n d_TrustDeskModel_within_1 rfl rfl ?_
      refine mv_lltZ (tgt := 17) (a := x2.toInt) (b := 0) d_TrustDeskModel_within_2 d_TrustDeskModel_within_3 (by decide) (mz_wide _) (by decide) (fun b30 => ?_) (fun b30 => ?_)
      · refine mv_iconst (v := 0) d_TrustDeskModel_within_17 (by decide) ?_
        refine mv_iret d_TrustDeskModel_within_18 rfl (by decide) ?_
        refine mv_if_eq_t (tgt := 38) d_TrustDeskModel_fund_26 (by decide) (by decide) ?_
        refine mv_iconst (v := (-1)) d_TrustDeskModel_fund_38 (by decide) ?_
        exact mv_iret d_TrustDeskModel_fund_39 rfl (by first | rfl | decide) ⟨_, I5, _, rfl, R8, K24, K25, K26, (by have := R8.1 15 _ _ rfl; have := R8.1 16 _ _ rfl; have := R8.1 19 _ _ rfl; omega), (Or.inl ⟨by decide, by omega, z20, z21, z18⟩)⟩
      · refine mv_lload_n d_TrustDeskModel_within_6 rfl rfl ?_
        refine mv_lload d_TrustDeskModel_within_7 rfl ?_
        refine mv_lgtZ (tgt := 17) (a := x2.toInt) (b := 99999) d_TrustDeskModel_within_9 d_TrustDeskModel_within_10 (by decide) (mz_wide _) (by decide) (fun b31 => ?_) (fun b31 => ?_)
        · refine mv_iconst (v := 0) d_TrustDeskModel_within_17 (by decide) ?_
          refine mv_iret d_TrustDeskModel_within_18 rfl (by decide) ?_
          refine mv_if_eq_t (tgt := 38) d_TrustDeskModel_fund_26 (by decide) (by decide) ?_
          refine mv_iconst (v := (-1)) d_TrustDeskModel_fund_38 (by decide) ?_
          exact mv_iret d_TrustDeskModel_fund_39 rfl (by first | rfl | decide) ⟨_, I5, _, rfl, R8, K24, K25, K26, (by have := R8.1 15 _ _ rfl; have := R8.1 16 _ _ rfl; have := R8.1 19 _ _ rfl; omega), (Or.inl ⟨by decide, by omega, z20, z21, z18⟩)⟩
        · refine mv_iconst (v := 1) d_TrustDeskModel_within_13 (by decide) ?_
          refine mv_goto (tgt := 18) d_TrustDeskModel_within_14 (by decide) ?_
          refine mv_iret d_TrustDeskModel_within_18 rfl (by decide) ?_
          refine mv_if_eq_f (tgt := 38) d_TrustDeskModel_fund_26 (by decide) (by decide) ?_
          refine mv_aload_n d_TrustDeskModel_fund_29 rfl rfl ?_
          obtain ⟨v33, q32⟩ := tm_atI I5 h_o0 (k := 32) rfl
          refine tr_getK q32 d_TrustDeskModel_fund_30 f_TrustDeskModel_415_13 ?_
          have := R8.f (k := 32) q32 rfl
          have := (tm_rv q32).symm.trans z18
          have := tm_rv q32
          refine mv_bipush (v := 12) d_TrustDeskModel_fund_33 (by decide) ?_
          have := mz_hi v33
          refine mv_icmp_neZ (tgt := 40) (a := v33.toInt) (b := 12) d_TrustDeskModel_fund_35 (by decide) rfl (by decide) (fun b34 => ?_) (fun b34 => ?_)
          · refine mv_aload_n d_TrustDeskModel_fund_40 rfl rfl ?_
            refine mv_iconst (v := 0) d_TrustDeskModel_fund_41 (by decide) ?_
            obtain ⟨_, b41, -⟩ := I5.1 _ _ h_o0
            have : (0 : Int32).toInt = 0 := by decide
            refine mv_callV (kc' := 0) (ks' := 0) (As := [.int 0]) (st9 := [.int 0, .ref o0]) d_TrustDeskModel_fund_42 lV_TrustDeskModel_381 b41 rfl (tc_TrustDeskModel_starts_x (d := (d + 24)) (x9 := x9) (o0 := o0) (x1 := 0) h_o0 (by decide) R8 K27 I5.start) rfl (Nat.le_of_ble_eq_true rfl) (Nat.le_of_ble_eq_true rfl) (Nat.le_of_ble_eq_true rfl) (hst := rfl) (fun b35r M36 n37 b35 => ?_)
            obtain ⟨T38, J39, rfl, R42, f43, f44, f45, f46, f47, f48, f49⟩ := b35
            have I40 := I5.call J39 (tm_sub (by decide)) (Or.inl rfl)
            have t50 := J39.up h_o0
            have z51 := (rv_c I5 J39 (I5.up h_o0) (k := 27) rfl).trans z17
            have z52 := (rv_c I5 J39 (I5.up h_o0) (k := 32) rfl).trans z18
            have z53 := (rv_c I5 J39 (I5.up h_o0) (k := 49) rfl).trans z19
            have z54 := (rv_c I5 J39 (I5.up h_o0) (k := 14) rfl).trans z20
            have z55 := (rv_c I5 J39 (I5.up h_o0) (k := 21) rfl).trans z21
            have K56 : rC M36 o0 44 := K24.same (sA_c I5 J39 (I5.up h_o0) (by decide +kernel)) (sF_c I5 J39 (I5.up h_o0) (by decide +kernel))
            have K57 : rP M36 o0 := K25.same (sA_c I5 J39 (I5.up h_o0) (by decide +kernel)) (sF_c I5 J39 (I5.up h_o0) (by decide +kernel))
            have K58 : rB M36 o0 12 := K26.same (sA_c I5 J39 (I5.up h_o0) (by decide +kernel)) (sF_c I5 J39 (I5.up h_o0) (by decide +kernel))
            have K59 : pX M36 o0 pb pn := K27.same (sA_c I5 J39 (I5.up h_o0) (by decide +kernel)) (sF_c I5 J39 (I5.up h_o0) (by decide +kernel))
            have K60 : rW M36 o0 := rW.start f43 R42 f47 f48 f46
            rw [show (if (0 : Int32).toInt = 0 then (10 : Int) else 13) = 10 from by decide] at f49
            obtain ⟨s61, e62⟩ : ∃ s9 : p_S, (0, 0, 0) = s9 := ⟨_, rfl⟩
            rw [e62] at f49
            have := f49.w
            have : s61.1 = 0 := by rw [← e62]
            have : s61.2.2 = 0 := by rw [← e62]
            have hG : Im (0 ≤ x1.toInt ∧ x1.toInt ≤ 999 ∧ 0 ≤ x2.toInt ∧ x2.toInt ≤ 99999 ∧ rv M0 o0 32 ≠ 12) := Im.i (by omega)
            clear z17 z18 z19 z20 z21
            have q63 := J39.keep h_o0 (by decide) q6
            have q64 := J39.keep h_o0 (by decide) q32
            have C66_65 : ∀ (T_65 : tm_H) (M_65 : mj_M) (n_65 : Nat), tm_I tm_FT (tm_in w_TrustDeskModel_fund_x) x9 T0 M0 n0 T_65 M_65 n_65 → T_65 o0 = some (0, 13, 0) → (rv M_65 o0 19 = 0 → rv M_65 o0 22 = 0) → rv M_65 o0 27 = rv M0 o0 27 → rv M_65 o0 32 = rv M0 o0 32 → rv M_65 o0 49 = rv M0 o0 49 → ra M_65 o0 6 44 ≤ 12 → (rI M_65 o0) → (rC M_65 o0 44) → (rP M_65 o0) → (rB M_65 o0 12) → (rW M_65 o0) → (∃ (c1 : Nat) (N1 : List (Nat × Nat)) (s1 : p_S), pO M_65 o0 pb pn 10 s1 ∧ (s1.1 = 0 → ra M_65 o0 6 44 = (c1 : Int)) ∧ (s1.1 = 0 → pN M_65 o0 pn N1) ∧ (c1, N1, s1) = p_dee pb pn) → mj_V g l kY_TrustDeskModel_fund (d + 27) 66 [(0, .ref o0), (1, .int x1), (2, .int x2)] [] M_65 n_65 0 0 (tm_Q tm_FT (tm_in w_TrustDeskModel_fund_x) x9 T0 M0 n0 (fun r _ M => ∃ v : Int32, r = some (.int v) ∧ rI M o0 ∧ (rC M o0 44) ∧ (rP M o0) ∧ (rB M o0 12) ∧ (rv M0 o0 32 ≤ rv M o0 32) ∧ ((v.toInt = -1 ∧ ¬ (0 ≤ x1.toInt ∧ x1.toInt ≤ 999 ∧ 0 ≤ x2.toInt ∧ x2.toInt ≤ 99999 ∧ rv M0 o0 32 ≠ 12) ∧ rv M o0 14 = rv M0 o0 14 ∧ rv M o0 21 = rv M0 o0 21 ∧ rv M o0 32 = rv M0 o0 32) ∨ ((0 ≤ x1.toInt ∧ x1.toInt ≤ 999 ∧ 0 ≤ x2.toInt ∧ x2.toInt ≤ 99999 ∧ rv M0 o0 32 ≠ 12) ∧ rv M o0 14 = 0 ∧ (((p_dee pb pn).2.2.1 = 0 ∧ v.toInt = rv M0 o0 32 ∧ rv M o0 21 = -1 ∧ rv M o0 32 = rv M0 o0 32 + 1) ∨ ((p_dee pb pn).2.2.1 ≠ 0 ∧ v.toInt = -1 - (p_dee pb pn).2.2.1 ∧ rv M o0 21 = ((p_dee pb pn).2.2.2.1 : Int) ∧ rv M o0 32 = rv M0 o0 32)))))) := by
                intro T_65 M_65 n_65 I_65 h_q0_65 iv0_65 iv1_65 iv2_65 iv3_65 iv4_65 kKR_65 kKC_65 kKP_65 kKB_65 kKW_65 kKT9_65
                obtain ⟨c66, N71, s67, S68, h69, h72, e70⟩ := kKT9_65
                replace h72 := Im.i h72
                replace h69 := Im.i h69
                have := S68.w
                refine mv_bipush (v := 20) d_TrustDeskModel_fund_66 (by decide) ?_
                refine mv_aload_n d_TrustDeskModel_fund_68 rfl rfl ?_
                obtain ⟨v74, q73⟩ := tm_atI I_65 h_q0_65 (k := 32) rfl
                refine tr_getK q73 d_TrustDeskModel_fund_69 f_TrustDeskModel_415_13 ?_
                have := kKR_65.f (k := 32) q73 rfl
                have := tm_rv q73
                refine mv_iadd d_TrustDeskModel_fund_72 ?_
                refine mv_istore_n (lv' := [(3, .int (20 + v74)), (0, .ref o0), (1, .int x1), (2, .int x2)]) d_TrustDeskModel_fund_73 rfl (by decide) rfl ?_
                refine mv_aload_n d_TrustDeskModel_fund_74 rfl rfl ?_
                refine mv_iload_n d_TrustDeskModel_fund_75 rfl rfl ?_
                obtain ⟨_, b81, -⟩ := I_65.1 _ _ h_q0_65
                have b82 : (20 + v74 : Int32).toInt = (20 + v74.toInt) := mz_add2 (by decide) rfl (by have := kKR_65.1 15 _ _ rfl; have := kKR_65.1 16 _ _ rfl; have := kKR_65.1 19 _ _ rfl; omega) (by have := kKR_65.1 15 _ _ rfl; have := kKR_65.1 16 _ _ rfl; have := kKR_65.1 19 _ _ rfl; omega)
                refine mv_callV (kc' := 0) (ks' := 0) (As := [.int (20 + v74)]) (st9 := [.int (20 + v74), .ref o0]) d_TrustDeskModel_fund_76 lV_TrustDeskModel_388 b81 rfl (tc_TrustDeskModel_stops_x (d := (d + 25)) (x9 := x9) (o0 := o0) (x1 := (20 + v74)) h_q0_65 kKR_65 (by have := kKR_65.1 15 _ _ rfl; have := kKR_65.1 16 _ _ rfl; have := kKR_65.1 19 _ _ rfl; omega) S68 I_65.start) rfl (Nat.le_of_ble_eq_true rfl) (Nat.le_of_ble_eq_true rfl) (Nat.le_of_ble_eq_true rfl) (hst := rfl) (fun b75r M76 n77 b75 => ?_)
                obtain ⟨T78, J79, v83, rfl, R84, f85, f86, f87, f88, f89⟩ := b75
                have I80 := I_65.call J79 (tm_sub (by decide)) (Or.inl rfl)
                have t90 := J79.up h_q0_65
                replace f85 := Im.i f85
                replace f86 := Im.i f86
                have z91 := (rv_c I_65 J79 (I_65.up h_o0) (k := 15) rfl)
                have z92 := (rv_c I_65 J79 (I_65.up h_o0) (k := 16) rfl)
                have z93 := (rv_c I_65 J79 (I_65.up h_o0) (k := 17) rfl)
                have z94 := (rv_c I_65 J79 (I_65.up h_o0) (k := 19) rfl)
                have z95 := (rv_c I_65 J79 (I_65.up h_o0) (k := 22) rfl)
                have z96 := (rv_c I_65 J79 (I_65.up h_o0) (k := 24) rfl)
                have z97 := (rv_c I_65 J79 (I_65.up h_o0) (k := 27) rfl)
                have z98 := (rv_c I_65 J79 (I_65.up h_o0) (k := 32) rfl)
                have z99 := (rv_c I_65 J79 (I_65.up h_o0) (k := 49) rfl)
                have e100 := e70.symm
                have z1 : (p_dee pb pn).2.2.1 = s67.1 := by rw [e100]
                have z3 : (p_dee pb pn).2.2.2.1 = s67.2.1 := by rw [e100]
                have K101 : rP M76 o0 := kKP_65.same (sA_c I_65 J79 (I_65.up h_o0) (by decide +kernel)) (sF_c I_65 J79 (I_65.up h_o0) (by decide +kernel))
                have K102 : rB M76 o0 12 := kKB_65.same (sA_c I_65 J79 (I_65.up h_o0) (by decide +kernel)) (sF_c I_65 J79 (I_65.up h_o0) (by decide +kernel))
                have K103 : (v83.toInt < 0 → rC M76 o0 44) ∧ (0 ≤ v83.toInt → rC M76 o0 ((20 + v74).toNatClampNeg)) := rC.st kKC_65 kKR_65 kKW_65 (by have := mz_nat9 (i := (20 + v74)) (by have := kKR_65.1 15 _ _ rfl; have := kKR_65.1 16 _ _ rfl; have := kKR_65.1 19 _ _ rfl; omega); have := kKR_65.1 15 _ _ rfl; have := kKR_65.1 16 _ _ rfl; have := kKR_65.1 19 _ _ rfl; omega) (by unfold rU; have := mz_nat9 (i := (20 + v74)) (by have := kKR_65.1 15 _ _ rfl; have := kKR_65.1 16 _ _ rfl; have := kKR_65.1 19 _ _ rfl; omega); have := kKR_65.1 15 _ _ rfl; have := kKR_65.1 16 _ _ rfl; have := kKR_65.1 19 _ _ rfl; omega) f85 f86 (sA_c I_65 J79 (I_65.up h_o0) (by decide)) (sF_c I_65 J79 (I_65.up h_o0) (by decide))
                have h104 := kc_of f85 f86 kKR_65 kKW_65
                have := (kKR_65.2 6 _ _ rfl 44)
                have K105 : sA [7] M76 M76 o0 := sA.rf
                have : 0 ≤ v83.toInt → ra M76 o0 6 (20 + v74).toNatClampNeg = ra M_65 o0 6 44 := fun h9 => by
                  by_cases w9 : rv M_65 o0 19 = 0
                  · exact (f86.o w9).2.2.2.2.2.2.2
                  · have := (f85.o w9).1; omega
                have g106 := Im.i (tl_st (tl_ge (kKR_65.1 19 _ _ rfl) S68.w) f88 f89)
                clear f88 f89
                have q107 := J79.keep h_q0_65 (by decide) q73
                refine mv_istore (lv' := [(4, .int v83), (3, .int (20 + v74)), (0, .ref o0), (1, .int x1), (2, .int x2)]) d_TrustDeskModel_fund_79 (by decide) rfl ?_
                refine mv_iload d_TrustDeskModel_fund_81 rfl ?_
                have := mz_hi v83
                refine mv_if_geZ (tgt := 89) (a := v83.toInt) d_TrustDeskModel_fund_83 (by decide) rfl (fun b108 => ?_) (fun b108 => ?_)
                · have K109 : rC M76 o0 ((20 + v74).toNatClampNeg) := K103.2 (by omega)
                  obtain ⟨g110, g111⟩ := (Im.o g106).1 (by omega)
                  refine mv_aload_n d_TrustDeskModel_fund_89 rfl rfl ?_
                  refine tr_getK (k := 32) q107 d_TrustDeskModel_fund_90 f_TrustDeskModel_415_13 ?_
                  refine mv_istore (lv' := [(5, .int v74), (4, .int v83), (3, .int (20 + v74)), (0, .ref o0), (1, .int x1), (2, .int x2)]) d_TrustDeskModel_fund_93 (by decide) rfl ?_
                  refine mv_aload_n d_TrustDeskModel_fund_95 rfl rfl ?_
                  obtain ⟨a114, q113, t_a114⟩ := tm_atR I80 t90 (k := 33) rfl
                  refine tr_getK q113 d_TrustDeskModel_fund_96 f_TrustDeskModel_66_13 ?_
                  refine mv_iload d_TrustDeskModel_fund_99 rfl ?_
                  refine mv_iload_n d_TrustDeskModel_fund_101 rfl rfl ?_
                  refine tr_iastR (k := 33) I80 R84 (I80.up h_o0) q113 t_a114 (by decide) (by decide) (fun lo hi h => by cases h; have := R84.1 15 _ _ rfl; have := R84.1 16 _ _ rfl; have := R84.1 19 _ _ rfl; exact ⟨by show (0 : Int) ≤ x1.toInt; omega, by show x1.toInt ≤ (999 : Int); omega⟩) (Or.inl (by decide)) d_TrustDeskModel_fund_102 (vp_in_iff.mpr (by have := R84.1 15 _ _ rfl; have := R84.1 16 _ _ rfl; have := R84.1 19 _ _ rfl; omega)) (fun M115 I116 K117 R118 E119 A120 V121 => ?_)
                  have z122 := (V121 15).trans z91
                  have z123 := (V121 16).trans z92
                  have z124 := (V121 17).trans z93
                  have z125 := (V121 19).trans z94
                  have z126 := (V121 22).trans z95
                  have z127 := (V121 24).trans z96
                  have z128 := (V121 27).trans z97
                  have z129 := (V121 32).trans z98
                  have z130 := (V121 49).trans z99
                  have z131 := (V121 14)
                  have z132 := (V121 21)
                  have z133 := (A120 5 (by decide) rfl 44)
                  have z134 := (A120 6 (by decide) rfl 44)
                  have z135 := (A120 6 (by decide) rfl ((20 + v74).toNatClampNeg))
                  have K136 : rP M115 o0 := K101.same (sA_a A120 (by decide +kernel)) (sF_a V121)
                  have K137 : rB M115 o0 12 := K102.same (sA_a A120 (by decide +kernel)) (sF_a V121)
                  have K138 : sA [7] M76 M115 o0 := K105.trans (sA_a A120 (by decide +kernel))
                  have K139 : rC M115 o0 ((20 + v74).toNatClampNeg) := K109.same (sA_a A120 (by decide +kernel)) (sF_a V121)
                  clear z91 z92 z93 z95 z96 z97 z98 z99
                  refine mv_aload_n d_TrustDeskModel_fund_103 rfl rfl ?_
                  obtain ⟨a141, q140, t_a141⟩ := tm_atR I116 t90 (k := 34) rfl
                  refine tr_getK q140 d_TrustDeskModel_fund_104 f_TrustDeskModel_69_13 ?_
                  refine mv_iload d_TrustDeskModel_fund_107 rfl ?_
                  refine mv_iload_n d_TrustDeskModel_fund_109 rfl rfl ?_
                  refine tr_iastR (k := 34) I116 R118 (I116.up h_o0) q140 t_a141 (by decide) (by decide) (fun lo hi h => by cases h; have := R118.1 15 _ _ rfl; have := R118.1 16 _ _ rfl; have := R118.1 19 _ _ rfl; exact ⟨by show (0 : Int) ≤ x2.toInt; omega, by show x2.toInt ≤ (99999 : Int); omega⟩) (Or.inl (by decide)) d_TrustDeskModel_fund_110 (vp_in_iff.mpr (by have := R118.1 15 _ _ rfl; have := R118.1 16 _ _ rfl; have := R118.1 19 _ _ rfl; omega)) (fun M142 I143 K144 R145 E146 A147 V148 => ?_)
                  have z149 := (V148 15).trans z122
                  have z150 := (V148 16).trans z123
                  have z151 := (V148 17).trans z124
                  have z152 := (V148 19).trans z125
                  have z153 := (V148 22).trans z126
                  have z154 := (V148 24).trans z127
                  have z155 := (V148 27).trans z128
                  have z156 := (V148 32).trans z129
                  have z157 := (V148 49).trans z130
                  have z158 := (V148 14).trans z131
                  have z159 := (V148 21).trans z132
                  have z160 := (A147 5 (by decide) rfl 44).trans z133
                  have z161 := (A147 6 (by decide) rfl 44).trans z134
                  have z162 := (A147 6 (by decide) rfl ((20 + v74).toNatClampNeg)).trans z135
                  have K163 : rP M142 o0 := K136.same (sA_a A147 (by decide +kernel)) (sF_a V148)
                  have K164 : rB M142 o0 12 := K137.same (sA_a A147 (by decide +kernel)) (sF_a V148)
                  have K165 : sA [7] M76 M142 o0 := K138.trans (sA_a A147 (by decide +kernel))
                  have K166 : rC M142 o0 ((20 + v74).toNatClampNeg) := K139.same (sA_a A147 (by decide +kernel)) (sF_a V148)
                  clear z122 z123 z124 z126 z127 z128 z129 z130 z131 z132 z133 z134 z135
                  refine mv_aload_n d_TrustDeskModel_fund_111 rfl rfl ?_
                  obtain ⟨a168, q167, t_a168⟩ := tm_atR I143 t90 (k := 35) rfl
                  refine tr_getK q167 d_TrustDeskModel_fund_112 f_TrustDeskModel_72_13 ?_
                  refine mv_iload d_TrustDeskModel_fund_115 rfl ?_
                  refine mv_lconst (v := 0) d_TrustDeskModel_fund_117 (by decide) ?_
                  refine tr_lastR (k := 35) I143 R145 (I143.up h_o0) q167 t_a168 (by decide) (by decide) (fun lo hi h => by cases h; have e9 : (0 : Int64).toInt = 0 := (by decide); exact ⟨by show (0 : Int) ≤ (0 : Int64).toInt; omega, by show (0 : Int64).toInt ≤ (1000000000000000 : Int); omega⟩) (Or.inl (by decide)) d_TrustDeskModel_fund_118 (vp_in_iff.mpr (by have := R145.1 15 _ _ rfl; have := R145.1 16 _ _ rfl; have := R145.1 19 _ _ rfl; omega)) (fun M169 I170 K171 R172 E173 A174 V175 => ?_)
                  have z176 := (V175 15).trans z149
                  have z177 := (V175 16).trans z150
                  have z178 := (V175 17).trans z151
                  have z179 := (V175 19).trans z152
                  have z180 := (V175 22).trans z153
                  have z181 := (V175 24).trans z154
                  have z182 := (V175 27).trans z155
                  have z183 := (V175 32).trans z156
                  have z184 := (V175 49).trans z157
                  have z185 := (V175 14).trans z158
                  have z186 := (V175 21).trans z159
                  have z187 := (A174 5 (by decide) rfl 44).trans z160
                  have z188 := (A174 6 (by decide) rfl 44).trans z161
                  have z189 := (A174 6 (by decide) rfl ((20 + v74).toNatClampNeg)).trans z162
                  have K190 : rP M169 o0 := K163.same (sA_a A174 (by decide +kernel)) (sF_a V175)
                  have K191 : rB M169 o0 12 := K164.same (sA_a A174 (by decide +kernel)) (sF_a V175)
                  have K192 : sA [7] M76 M169 o0 := K165.trans (sA_a A174 (by decide +kernel))
                  have K193 : rC M169 o0 ((20 + v74).toNatClampNeg) := K166.same (sA_a A174 (by decide +kernel)) (sF_a V175)
                  clear z149 z150 z151 z153 z154 z155 z156 z157 z158 z159 z160 z161 z162
                  refine mv_aload_n d_TrustDeskModel_fund_119 rfl rfl ?_
                  obtain ⟨a195, q194, t_a195⟩ := tm_atR I170 t90 (k := 36) rfl
                  refine tr_getK q194 d_TrustDeskModel_fund_120 f_TrustDeskModel_76_13 ?_
                  refine mv_iload d_TrustDeskModel_fund_123 rfl ?_
                  refine mv_iconst (v := 0) d_TrustDeskModel_fund_125 (by decide) ?_
                  refine tr_iastR (k := 36) I170 R172 (I170.up h_o0) q194 t_a195 (by decide) (by decide) (fun lo hi h => by cases h) (Or.inl (by decide)) d_TrustDeskModel_fund_126 (vp_in_iff.mpr (by have := R172.1 15 _ _ rfl; have := R172.1 16 _ _ rfl; have := R172.1 19 _ _ rfl; omega)) (fun M196 I197 K198 R199 E200 A201 V202 => ?_)
                  have z203 := (V202 15).trans z176
                  have z204 := (V202 16).trans z177
                  have z205 := (V202 17).trans z178
                  have z206 := (V202 19).trans z179
                  have z207 := (V202 22).trans z180
                  have z208 := (V202 24).trans z181
                  have z209 := (V202 27).trans z182
                  have z210 := (V202 32).trans z183
                  have z211 := (V202 49).trans z184
                  have z212 := (V202 14).trans z185
                  have z213 := (V202 21).trans z186
                  have z214 := (A201 5 (by decide) rfl 44).trans z187
                  have z215 := (A201 6 (by decide) rfl 44).trans z188
                  have z216 := (A201 6 (by decide) rfl ((20 + v74).toNatClampNeg)).trans z189
                  have K217 : rP M196 o0 := K190.same (sA_a A201 (by decide +kernel)) (sF_a V202)
                  have K218 : rB M196 o0 12 := K191.same (sA_a A201 (by decide +kernel)) (sF_a V202)
                  have K219 : sA [7] M76 M196 o0 := K192.trans (sA_a A201 (by decide +kernel))
                  have K220 : rC M196 o0 ((20 + v74).toNatClampNeg) := K193.same (sA_a A201 (by decide +kernel)) (sF_a V202)
                  clear z176 z177 z178 z180 z181 z182 z183 z184 z185 z186 z187 z188 z189
                  refine mv_aload_n d_TrustDeskModel_fund_127 rfl rfl ?_
                  obtain ⟨a222, q221, t_a222⟩ := tm_atR I197 t90 (k := 37) rfl
                  refine tr_getK q221 d_TrustDeskModel_fund_128 f_TrustDeskModel_79_13 ?_
                  refine mv_iload d_TrustDeskModel_fund_131 rfl ?_
                  refine mv_iconst (v := (-1)) d_TrustDeskModel_fund_133 (by decide) ?_
                  refine tr_iastR (k := 37) I197 R199 (I197.up h_o0) q221 t_a222 (by decide) (by decide) (fun lo hi h => by cases h; have e9 : ((-1) : Int32).toInt = (-1) := (by decide); exact ⟨by show ((-1) : Int) ≤ ((-1) : Int32).toInt; omega, by show ((-1) : Int32).toInt ≤ (11 : Int); omega⟩) (Or.inl (by decide)) d_TrustDeskModel_fund_134 (vp_in_iff.mpr (by have := R199.1 15 _ _ rfl; have := R199.1 16 _ _ rfl; have := R199.1 19 _ _ rfl; omega)) (fun M223 I224 K225 R226 E227 A228 V229 => ?_)
                  have z230 := (V229 15).trans z203
                  have z231 := (V229 16).trans z204
                  have z232 := (V229 17).trans z205
                  have z233 := (V229 19).trans z206
                  have z234 := (V229 22).trans z207
                  have z235 := (V229 24).trans z208
                  have z236 := (V229 27).trans z209
                  have z237 := (V229 32).trans z210
                  have z238 := (V229 49).trans z211
                  have z239 := (V229 14).trans z212
                  have z240 := (V229 21).trans z213
                  have z241 := (A228 5 (by decide) rfl 44).trans z214
                  have z242 := (A228 6 (by decide) rfl 44).trans z215
                  have z243 := (A228 6 (by decide) rfl ((20 + v74).toNatClampNeg)).trans z216
                  have K244 : rP M223 o0 := K217.out A228 E227 V229 (by have := mz_nat9 (i := v74) (by have := R199.1 15 _ _ rfl; have := R199.1 16 _ _ rfl; have := R199.1 19 _ _ rfl; omega); have := R199.1 15 _ _ rfl; have := R199.1 16 _ _ rfl; have := R199.1 19 _ _ rfl; omega)
                  have K245 : rB M223 o0 12 := K218.out A228 E227 V229 (by have := mz_nat9 (i := v74) (by have := R199.1 15 _ _ rfl; have := R199.1 16 _ _ rfl; have := R199.1 19 _ _ rfl; omega); have := R199.1 15 _ _ rfl; have := R199.1 16 _ _ rfl; have := R199.1 19 _ _ rfl; omega)
                  have K246 : sA [7] M76 M223 o0 := K219.trans (sA_a A228 (by decide +kernel))
                  have K247 : rC M223 o0 ((20 + v74).toNatClampNeg) := K220.same (sA_a A228 (by decide +kernel)) (sF_a V229)
                  have := (K218.2 v74.toNatClampNeg (by have := mz_nat9 (i := v74) (by have := R199.1 15 _ _ rfl; have := R199.1 16 _ _ rfl; have := R199.1 19 _ _ rfl; omega); have := R199.1 15 _ _ rfl; have := R199.1 16 _ _ rfl; have := R199.1 19 _ _ rfl; omega) (by have := mz_nat9 (i := v74) (by have := R199.1 15 _ _ rfl; have := R199.1 16 _ _ rfl; have := R199.1 19 _ _ rfl; omega); have := R199.1 15 _ _ rfl; have := R199.1 16 _ _ rfl; have := R199.1 19 _ _ rfl; omega)).1 (by have := mz_nat9 (i := v74) (by have := R199.1 15 _ _ rfl; have := R199.1 16 _ _ rfl; have := R199.1 19 _ _ rfl; omega); have := R199.1 15 _ _ rfl; have := R199.1 16 _ _ rfl; have := R199.1 19 _ _ rfl; omega)
                  have := A228 43 (by decide) rfl v74.toNatClampNeg
                  have : ra M223 o0 37 v74.toNatClampNeg = -1 := (E227 _).trans (if_pos rfl)
                  clear z203 z204 z205 z207 z208 z209 z210 z211 z212 z213 z214 z215 z216
                  refine mv_aload_n d_TrustDeskModel_fund_135 rfl rfl ?_
                  obtain ⟨a249, q248, t_a249⟩ := tm_atR I224 t90 (k := 38) rfl
                  refine tr_getK q248 d_TrustDeskModel_fund_136 f_TrustDeskModel_82_13 ?_
                  refine mv_iload d_TrustDeskModel_fund_139 rfl ?_
                  refine mv_bipush (v := 7) d_TrustDeskModel_fund_141 (by decide) ?_
                  refine tr_iastR (k := 38) I224 R226 (I224.up h_o0) q248 t_a249 (by decide) (by decide) (fun lo hi h => by cases h) (Or.inl (by decide)) d_TrustDeskModel_fund_143 (vp_in_iff.mpr (by have := R226.1 15 _ _ rfl; have := R226.1 16 _ _ rfl; have := R226.1 19 _ _ rfl; omega)) (fun M250 I251 K252 R253 E254 A255 V256 => ?_)
                  have z257 := (V256 15).trans z230
                  have z258 := (V256 16).trans z231
                  have z259 := (V256 17).trans z232
                  have z260 := (V256 19).trans z233
                  have z261 := (V256 22).trans z234
                  have z262 := (V256 24).trans z235
                  have z263 := (V256 27).trans z236
                  have z264 := (V256 32).trans z237
                  have z265 := (V256 49).trans z238
                  have z266 := (V256 14).trans z239
                  have z267 := (V256 21).trans z240
                  have z268 := (A255 5 (by decide) rfl 44).trans z241
                  have z269 := (A255 6 (by decide) rfl 44).trans z242
                  have z270 := (A255 6 (by decide) rfl ((20 + v74).toNatClampNeg)).trans z243
                  have z271 := (A255 43 (by decide) rfl v74.toNatClampNeg)
                  have z272 := (A255 37 (by decide) rfl v74.toNatClampNeg)
                  have K273 : rP M250 o0 := K244.same (sA_a A255 (by decide +kernel)) (sF_a V256)
                  have K274 : rB M250 o0 12 := K245.same (sA_a A255 (by decide +kernel)) (sF_a V256)
                  have K275 : sA [7] M76 M250 o0 := K246.trans (sA_a A255 (by decide +kernel))
                  have K276 : rC M250 o0 ((20 + v74).toNatClampNeg) := K247.same (sA_a A255 (by decide +kernel)) (sF_a V256)
                  clear z230 z231 z232 z234 z235 z236 z237 z238 z239 z240 z241 z242 z243
                  refine mv_aload_n d_TrustDeskModel_fund_144 rfl rfl ?_
                  obtain ⟨a278, q277, t_a278⟩ := tm_atR I251 t90 (k := 39) rfl
                  refine tr_getK q277 d_TrustDeskModel_fund_145 f_TrustDeskModel_85_13 ?_
                  refine mv_iload d_TrustDeskModel_fund_148 rfl ?_
                  refine mv_iconst (v := 1) d_TrustDeskModel_fund_150 (by decide) ?_
                  refine tr_iastR (k := 39) I251 R253 (I251.up h_o0) q277 t_a278 (by decide) (by decide) (fun lo hi h => by cases h) (Or.inl (by decide)) d_TrustDeskModel_fund_151 (vp_in_iff.mpr (by have := R253.1 15 _ _ rfl; have := R253.1 16 _ _ rfl; have := R253.1 19 _ _ rfl; omega)) (fun M279 I280 K281 R282 E283 A284 V285 => ?_)
                  have z286 := (V285 15).trans z257
                  have z287 := (V285 16).trans z258
                  have z288 := (V285 17).trans z259
                  have z289 := (V285 19).trans z260
                  have z290 := (V285 22).trans z261
                  have z291 := (V285 24).trans z262
                  have z292 := (V285 27).trans z263
                  have z293 := (V285 32).trans z264
                  have z294 := (V285 49).trans z265
                  have z295 := (V285 14).trans z266
                  have z296 := (V285 21).trans z267
                  have z297 := (A284 5 (by decide) rfl 44).trans z268
                  have z298 := (A284 6 (by decide) rfl 44).trans z269
                  have z299 := (A284 6 (by decide) rfl ((20 + v74).toNatClampNeg)).trans z270
                  have z300 := (A284 43 (by decide) rfl v74.toNatClampNeg).trans z271
                  have z301 := (A284 37 (by decide) rfl v74.toNatClampNeg).trans z272
                  have K302 : rP M279 o0 := K273.same (sA_a A284 (by decide +kernel)) (sF_a V285)
                  have K303 : rB M279 o0 12 := K274.same (sA_a A284 (by decide +kernel)) (sF_a V285)
                  have K304 : sA [7] M76 M279 o0 := K275.trans (sA_a A284 (by decide +kernel))
                  have K305 : rC M279 o0 ((20 + v74).toNatClampNeg) := K276.same (sA_a A284 (by decide +kernel)) (sF_a V285)
                  clear z257 z258 z259 z261 z262 z263 z264 z265 z266 z267 z268 z269 z270 z271 z272
                  refine mv_iconst (v := 0) d_TrustDeskModel_fund_152 (by decide) ?_
                  refine mv_istore (lv' := [(6, .int 0), (5, .int v74), (4, .int v83), (3, .int (20 + v74)), (0, .ref o0), (1, .int x1), (2, .int x2)]) d_TrustDeskModel_fund_153 (by decide) rfl ?_
                  have L155_306 : ∀ (k : Nat) (i6_306 : Int32) (T_306 : tm_H) (M_306 : mj_M) (n_306 : Nat), tm_I tm_FT (tm_in w_TrustDeskModel_fund_x) x9 T0 M0 n0 T_306 M_306 n_306 → T_306 o0 = some (0, 13, 0) → 0 ≤ i6_306.toInt → rv M_306 o0 27 = rv M0 o0 27 → rv M_306 o0 32 = rv M0 o0 32 → rv M_306 o0 49 = rv M0 o0 49 → ra M_306 o0 6 (20 + v74).toNatClampNeg = ra M76 o0 6 (20 + v74).toNatClampNeg → ra M_306 o0 37 (v74).toNatClampNeg = -1 → ra M_306 o0 43 (v74).toNatClampNeg ≤ i6_306.toInt → ra M_306 o0 43 (v74).toNatClampNeg ≤ kc M76 o0 (20 * (20 + v74).toNatClampNeg) (i6_306.toInt).toNat → i6_306.toInt ≤ ra M76 o0 6 (20 + v74).toNatClampNeg → rv M_306 o0 14 = 0 → rv M_306 o0 21 = rv M76 o0 21 → (rI M_306 o0) → (rP M_306 o0) → (rB M_306 o0 v74.toNatClampNeg) → (sA [7] M76 M_306 o0) → (rC M_306 o0 ((20 + v74).toNatClampNeg)) → 2147483647 - i6_306.toInt < (k : Int) → mj_V g l kY_TrustDeskModel_fund (d + 27) 155 [(6, .int i6_306), (5, .int v74), (4, .int v83), (3, .int (20 + v74)), (0, .ref o0), (1, .int x1), (2, .int x2)] [] M_306 n_306 0 0 (tm_Q tm_FT (tm_in w_TrustDeskModel_fund_x) x9 T0 M0 n0 (fun r _ M => ∃ v : Int32, r = some (.int v) ∧ rI M o0 ∧ (rC M o0 44) ∧ (rP M o0) ∧ (rB M o0 12) ∧ (rv M0 o0 32 ≤ rv M o0 32) ∧ ((v.toInt = -1 ∧ ¬ (0 ≤ x1.toInt ∧ x1.toInt ≤ 999 ∧ 0 ≤ x2.toInt ∧ x2.toInt ≤ 99999 ∧ rv M0 o0 32 ≠ 12) ∧ rv M o0 14 = rv M0 o0 14 ∧ rv M o0 21 = rv M0 o0 21 ∧ rv M o0 32 = rv M0 o0 32) ∨ ((0 ≤ x1.toInt ∧ x1.toInt ≤ 999 ∧ 0 ≤ x2.toInt ∧ x2.toInt ≤ 99999 ∧ rv M0 o0 32 ≠ 12) ∧ rv M o0 14 = 0 ∧ (((p_dee pb pn).2.2.1 = 0 ∧ v.toInt = rv M0 o0 32 ∧ rv M o0 21 = -1 ∧ rv M o0 32 = rv M0 o0 32 + 1) ∨ ((p_dee pb pn).2.2.1 ≠ 0 ∧ v.toInt = -1 - (p_dee pb pn).2.2.1 ∧ rv M o0 21 = ((p_dee pb pn).2.2.2.1 : Int) ∧ rv M o0 32 = rv M0 o0 32)))))) := by
                    intro k306
                    induction k306 with
                    | zero =>
                      intro i6_306 T_306 M_306 n_306 I_306 h_q0_306 iv0_306 iv1_306 iv2_306 iv3_306 iv4_306 iv5_306 iv6_306 iv7_306 iv8_306 iv9_306 iv10_306 kKR_306 kKP_306 kKB_306 kKY_306 kKC_306 hk306
                      have := mz_hi i6_306
                      have := kKR_306.1 15 _ _ rfl
                      have := kKR_306.1 16 _ _ rfl
                      have := kKR_306.1 19 _ _ rfl
                      omega
                    | succ k306 ih306 =>
                      intro i6_306 T_306 M_306 n_306 I_306 h_q0_306 iv0_306 iv1_306 iv2_306 iv3_306 iv4_306 iv5_306 iv6_306 iv7_306 iv8_306 iv9_306 iv10_306 kKR_306 kKP_306 kKB_306 kKY_306 kKC_306 hk306
                      have := kc_two (M := M76) (o := o0) (b := 20 * (20 + v74).toNatClampNeg) (n := i6_306.toInt.toNat)
                      refine mv_iload d_TrustDeskModel_fund_155 rfl ?_
                      refine mv_aload_n d_TrustDeskModel_fund_157 rfl rfl ?_
                      obtain ⟨a308, q307, t_a308⟩ := tm_atR I_306 h_q0_306 (k := 6) rfl
                      refine tr_getK q307 d_TrustDeskModel_fund_158 f_TrustDeskModel_23_13 ?_
                      refine mv_iload_n d_TrustDeskModel_fund_161 rfl rfl ?_
                      have b309 : (20 + v74 : Int32).toInt = (20 + v74.toInt) := mz_add2 (by decide) rfl (by have := kKR_306.1 15 _ _ rfl; have := kKR_306.1 16 _ _ rfl; have := kKR_306.1 19 _ _ rfl; omega) (by have := kKR_306.1 15 _ _ rfl; have := kKR_306.1 16 _ _ rfl; have := kKR_306.1 19 _ _ rfl; omega)
                      refine tr_ialdR (o := o0) (k := 6) I_306 q307 t_a308 (by decide) d_TrustDeskModel_fund_162 (vp_in_iff.mpr (by have := kKR_306.1 15 _ _ rfl; have := kKR_306.1 16 _ _ rfl; have := kKR_306.1 19 _ _ rfl; omega)) (fun v310 e311 => ?_)
                      have := kKR_306.a (k := 6) rfl ((20 + v74) : Int32).toNatClampNeg
                      have : v310.toInt = ra M_306 o0 6 (20 + v74).toNatClampNeg := e311
                      have := mz_hi i6_306
                      have := mz_hi v310
                      refine mv_icmp_geZ (tgt := 274) (a := i6_306.toInt) (b := v310.toInt) d_TrustDeskModel_fund_163 (by decide) rfl rfl (fun b312 => ?_) (fun b312 => ?_)
                      · refine mv_aload_n d_TrustDeskModel_fund_274 rfl rfl ?_
                        obtain ⟨a314, q313, t_a314⟩ := tm_atR I_306 h_q0_306 (k := 41) rfl
                        refine tr_getK q313 d_TrustDeskModel_fund_275 f_TrustDeskModel_92_13 ?_
                        refine mv_bipush (v := 12) d_TrustDeskModel_fund_278 (by decide) ?_
                        refine mv_iload d_TrustDeskModel_fund_280 rfl ?_
                        refine mv_imul d_TrustDeskModel_fund_282 ?_
                        refine mv_iload d_TrustDeskModel_fund_283 rfl ?_
                        refine mv_iadd d_TrustDeskModel_fund_285 ?_
                        refine mv_ldcw d_TrustDeskModel_fund_286 k_TrustDeskModel_432 ?_
                        have b315 : (12 * v74 : Int32).toInt = (12 * v74.toInt) := mz_mul2 (by decide) rfl (by have := kKR_306.1 15 _ _ rfl; have := kKR_306.1 16 _ _ rfl; have := kKR_306.1 19 _ _ rfl; omega) (by have := kKR_306.1 15 _ _ rfl; have := kKR_306.1 16 _ _ rfl; have := kKR_306.1 19 _ _ rfl; omega)
                        have b316 : ((12 * v74) + v74 : Int32).toInt = ((12 * v74.toInt) + v74.toInt) := mz_add2 b315 rfl (by have := kKR_306.1 15 _ _ rfl; have := kKR_306.1 16 _ _ rfl; have := kKR_306.1 19 _ _ rfl; omega) (by have := kKR_306.1 15 _ _ rfl; have := kKR_306.1 16 _ _ rfl; have := kKR_306.1 19 _ _ rfl; omega)
                        refine tr_iastR (k := 41) I_306 kKR_306 (I_306.up h_o0) q313 t_a314 (by decide) (by decide) (fun lo hi h => by cases h; have e9 : (1000000 : Int32).toInt = 1000000 := (by decide); exact ⟨by show (0 : Int) ≤ (1000000 : Int32).toInt; omega, by show (1000000 : Int32).toInt ≤ (1000000 : Int); omega⟩) (Or.inl (by decide)) d_TrustDeskModel_fund_289 (vp_in_iff.mpr (by have := kKR_306.1 15 _ _ rfl; have := kKR_306.1 16 _ _ rfl; have := kKR_306.1 19 _ _ rfl; omega)) (fun M317 I318 K319 R320 E321 A322 V323 => ?_)
                        have z324 := (V323 15)
                        have z325 := (V323 16)
                        have z326 := (V323 17)
                        have z327 := (V323 19)
                        have z328 := (V323 22)
                        have z329 := (V323 24)
                        have z330 := (V323 27)
                        have z331 := (V323 32)
                        have z332 := (V323 49)
                        have z333 := (V323 14)
                        have z334 := (V323 21)
                        have z335 := (A322 5 (by decide) rfl 44)
                        have z336 := (A322 6 (by decide) rfl 44)
                        have z337 := (A322 6 (by decide) rfl ((20 + v74).toNatClampNeg))
                        have z338 := (A322 43 (by decide) rfl v74.toNatClampNeg)
                        have z339 := (A322 37 (by decide) rfl v74.toNatClampNeg)
                        have K340 : sA [7] M76 M317 o0 := kKY_306.trans (sA_a A322 (by decide +kernel))
                        have K341 : rC M317 o0 ((20 + v74).toNatClampNeg) := kKC_306.same (sA_a A322 (by decide +kernel)) (sF_a V323)
                        have : kc M76 o0 (20 * (20 + v74).toNatClampNeg) i6_306.toInt.toNat ≤ 6 := by rw [show i6_306.toInt.toNat = (ra M_65 o0 6 44).toNat from by omega]; exact h104 (by omega)
                        refine mv_aload_n d_TrustDeskModel_fund_290 rfl rfl ?_
                        refine mv_dup d_TrustDeskModel_fund_291 rfl ?_
                        obtain ⟨v343, q342⟩ := tm_atI I318 h_q0_306 (k := 32) rfl
                        refine tr_getK q342 d_TrustDeskModel_fund_292 f_TrustDeskModel_415_13 ?_
                        have := R320.f (k := 32) q342 rfl
                        have := (tm_rv q342).symm.trans z331
                        have := tm_rv q342
                        refine mv_iconst (v := 1) d_TrustDeskModel_fund_295 (by decide) ?_
                        refine mv_iadd d_TrustDeskModel_fund_296 ?_
                        have b344 : (v343 + 1 : Int32).toInt = (v343.toInt + 1) := mz_add2 rfl (by decide) (by have := R320.1 15 _ _ rfl; have := R320.1 16 _ _ rfl; have := R320.1 19 _ _ rfl; omega) (by have := R320.1 15 _ _ rfl; have := R320.1 16 _ _ rfl; have := R320.1 19 _ _ rfl; omega)
                        refine tr_putR (k := 32) I318 R320 h_q0_306 rfl ⟨_, rfl⟩ (fun _ h => by cases h) rfl (fun lo hi h => by cases h; have := R320.1 15 _ _ rfl; have := R320.1 16 _ _ rfl; have := R320.1 19 _ _ rfl; exact ⟨by show (0 : Int) ≤ (v343 + 1).toInt; omega, by show (v343 + 1).toInt ≤ (12 : Int); omega⟩) (Or.inl (by decide)) d_TrustDeskModel_fund_297 p_TrustDeskModel_415_13 rfl rfl (fun M345 I346 q347 K348 R349 A350 V351 => ?_)
                        have z352 := (V351 15 (by decide)).trans z324
                        have z353 := (V351 16 (by decide)).trans z325
                        have z354 := (V351 17 (by decide)).trans z326
                        have z355 := (V351 19 (by decide)).trans z327
                        have z356 := (V351 22 (by decide)).trans z328
                        have z357 := (V351 24 (by decide)).trans z329
                        have z358 := (V351 27 (by decide)).trans z330
                        have z359 := (V351 49 (by decide)).trans z332
                        have z360 := (V351 14 (by decide)).trans z333
                        have z361 := (V351 21 (by decide)).trans z334
                        have z362 := (A350 5 (by decide) 44).trans z335
                        have z363 := (A350 6 (by decide) 44).trans z336
                        have z364 := (A350 6 (by decide) ((20 + v74).toNatClampNeg)).trans z337
                        have z365 := (A350 43 (by decide) v74.toNatClampNeg).trans z338
                        have z366 := (A350 37 (by decide) v74.toNatClampNeg).trans z339
                        have z367 : rv M345 o0 32 = (v343 + 1).toInt := tm_rv q347
                        have K368 : sA [7] M76 M345 o0 := K340.trans (sA_f A350 (by decide))
                        have K369 : rC M345 o0 44 := rC.fund K341 A350 V351 (by have := mz_nat9 (i := (20 + v74)) (by have := R320.1 15 _ _ rfl; have := R320.1 16 _ _ rfl; have := R320.1 19 _ _ rfl; omega); have := R320.1 15 _ _ rfl; have := R320.1 16 _ _ rfl; have := R320.1 19 _ _ rfl; omega) (by have := R320.1 15 _ _ rfl; have := R320.1 16 _ _ rfl; have := R320.1 19 _ _ rfl; omega) (by have := R320.1 15 _ _ rfl; have := R320.1 16 _ _ rfl; have := R320.1 19 _ _ rfl; omega) (by have := R320.1 15 _ _ rfl; have := R320.1 16 _ _ rfl; have := R320.1 19 _ _ rfl; omega)
                        have h370 := rPB.fund kKP_306 kKB_306 (by have := mz_nat9 (i := v74) (by have := R320.1 15 _ _ rfl; have := R320.1 16 _ _ rfl; have := R320.1 19 _ _ rfl; omega); have := R320.1 15 _ _ rfl; have := R320.1 16 _ _ rfl; have := R320.1 19 _ _ rfl; omega) E321 (by have := mz_nat9 (i := ((12 * v74) + v74)) (by have := R320.1 15 _ _ rfl; have := R320.1 16 _ _ rfl; have := R320.1 19 _ _ rfl; omega); have := R320.1 15 _ _ rfl; have := R320.1 16 _ _ rfl; have := R320.1 19 _ _ rfl; omega) A322 V323 A350 (by have := R320.1 15 _ _ rfl; have := R320.1 16 _ _ rfl; have := R320.1 19 _ _ rfl; omega) (by have := R320.1 15 _ _ rfl; have := R320.1 16 _ _ rfl; have := R320.1 19 _ _ rfl; omega) (by have := R320.1 15 _ _ rfl; have := R320.1 16 _ _ rfl; have := R320.1 19 _ _ rfl; omega) (by have := R320.1 15 _ _ rfl; have := R320.1 16 _ _ rfl; have := R320.1 19 _ _ rfl; omega)
                        have K371 : rP M345 o0 := h370.1
                        have K372 : rB M345 o0 12 := h370.2
                        clear z324 z325 z326 z328 z329 z330 z332 z333 z334 z335 z336 z337 z338 z339
                        refine mv_iload d_TrustDeskModel_fund_300 rfl ?_
                        exact mv_iret d_TrustDeskModel_fund_302 rfl (by first | rfl | decide) ⟨_, I346, _, rfl, R349, K369, K371, K372, (by have := R349.1 15 _ _ rfl; have := R349.1 16 _ _ rfl; have := R349.1 19 _ _ rfl; omega), (Or.inr ⟨Im.o hG, by omega, Or.inl ⟨by omega, by omega, by omega, by omega⟩⟩)⟩
                      · refine mv_bipush (v := 20) d_TrustDeskModel_fund_166 (by decide) ?_
                        refine mv_iload_n d_TrustDeskModel_fund_168 rfl rfl ?_
                        refine mv_imul d_TrustDeskModel_fund_169 ?_
                        refine mv_iload d_TrustDeskModel_fund_170 rfl ?_
                        refine mv_iadd d_TrustDeskModel_fund_172 ?_
                        refine mv_istore (lv' := [(7, .int ((20 * (20 + v74)) + i6_306)), (6, .int i6_306), (5, .int v74), (4, .int v83), (3, .int (20 + v74)), (0, .ref o0), (1, .int x1), (2, .int x2)]) d_TrustDeskModel_fund_173 (by decide) rfl ?_
                        refine mv_aload_n d_TrustDeskModel_fund_175 rfl rfl ?_
                        obtain ⟨a374, q373, t_a374⟩ := tm_atR I_306 h_q0_306 (k := 7) rfl
                        refine tr_getK q373 d_TrustDeskModel_fund_176 f_TrustDeskModel_26_13 ?_
                        refine mv_iload d_TrustDeskModel_fund_179 rfl ?_
                        have b375 : (20 + v74 : Int32).toInt = (20 + v74.toInt) := mz_add2 (by decide) rfl (by have := kKR_306.1 15 _ _ rfl; have := kKR_306.1 16 _ _ rfl; have := kKR_306.1 19 _ _ rfl; omega) (by have := kKR_306.1 15 _ _ rfl; have := kKR_306.1 16 _ _ rfl; have := kKR_306.1 19 _ _ rfl; omega)
                        have b376 : (20 * (20 + v74) : Int32).toInt = (20 * (20 + v74.toInt)) := mz_mul2 (by decide) b375 (by have := kKR_306.1 15 _ _ rfl; have := kKR_306.1 16 _ _ rfl; have := kKR_306.1 19 _ _ rfl; omega) (by have := kKR_306.1 15 _ _ rfl; have := kKR_306.1 16 _ _ rfl; have := kKR_306.1 19 _ _ rfl; omega)
                        have b377 : ((20 * (20 + v74)) + i6_306 : Int32).toInt = ((20 * (20 + v74.toInt)) + i6_306.toInt) := mz_add2 b376 rfl (by have := kKR_306.1 15 _ _ rfl; have := kKR_306.1 16 _ _ rfl; have := kKR_306.1 19 _ _ rfl; omega) (by have := kKR_306.1 15 _ _ rfl; have := kKR_306.1 16 _ _ rfl; have := kKR_306.1 19 _ _ rfl; omega)
                        refine tr_ialdR (o := o0) (k := 7) I_306 q373 t_a374 (by decide) d_TrustDeskModel_fund_181 (vp_in_iff.mpr (by have := kKR_306.1 15 _ _ rfl; have := kKR_306.1 16 _ _ rfl; have := kKR_306.1 19 _ _ rfl; omega)) (fun v378 e379 => ?_)
                        have z380 : ra M_306 o0 7 ((20 * (20 + v74)) + i6_306).toNatClampNeg = v378.toInt := e379.symm
                        have h381 : ((20 * (20 + v74)) + i6_306).toNatClampNeg = 20 * (20 + v74).toNatClampNeg + i6_306.toInt.toNat := by have := mz_nat9 (i := ((20 * (20 + v74)) + i6_306)) (by have := kKR_306.1 15 _ _ rfl; have := kKR_306.1 16 _ _ rfl; have := kKR_306.1 19 _ _ rfl; omega); have := mz_nat9 (i := (20 + v74)) (by have := kKR_306.1 15 _ _ rfl; have := kKR_306.1 16 _ _ rfl; have := kKR_306.1 19 _ _ rfl; omega); have := kKR_306.1 15 _ _ rfl; have := kKR_306.1 16 _ _ rfl; have := kKR_306.1 19 _ _ rfl; omega
                        have : v378.toInt = ra M76 o0 7 (20 * (20 + v74).toNatClampNeg + i6_306.toInt.toNat) := by have e9 := kKY_306 7 rfl; rw [← e9, e379, h381]
                        refine mv_bipush (v := 7) d_TrustDeskModel_fund_182 (by decide) ?_
                        have := mz_hi v378
                        refine mv_icmp_neZ (tgt := 204) (a := v378.toInt) (b := 7) d_TrustDeskModel_fund_184 (by decide) rfl (by decide) (fun b382 => ?_) (fun b382 => ?_)
                        · refine mv_aload_n d_TrustDeskModel_fund_204 rfl rfl ?_
                          refine tr_getK (k := 7) q373 d_TrustDeskModel_fund_205 f_TrustDeskModel_26_13 ?_
                          refine mv_iload d_TrustDeskModel_fund_208 rfl ?_
                          have b383 : (20 + v74 : Int32).toInt = (20 + v74.toInt) := mz_add2 (by decide) rfl (by have := kKR_306.1 15 _ _ rfl; have := kKR_306.1 16 _ _ rfl; have := kKR_306.1 19 _ _ rfl; omega) (by have := kKR_306.1 15 _ _ rfl; have := kKR_306.1 16 _ _ rfl; have := kKR_306.1 19 _ _ rfl; omega)
                          have b384 : (20 * (20 + v74) : Int32).toInt = (20 * (20 + v74.toInt)) := mz_mul2 (by decide) b383 (by have := kKR_306.1 15 _ _ rfl; have := kKR_306.1 16 _ _ rfl; have := kKR_306.1 19 _ _ rfl; omega) (by have := kKR_306.1 15 _ _ rfl; have := kKR_306.1 16 _ _ rfl; have := kKR_306.1 19 _ _ rfl; omega)
                          have b385 : ((20 * (20 + v74)) + i6_306 : Int32).toInt = ((20 * (20 + v74.toInt)) + i6_306.toInt) := mz_add2 b384 rfl (by have := kKR_306.1 15 _ _ rfl; have := kKR_306.1 16 _ _ rfl; have := kKR_306.1 19 _ _ rfl; omega) (by have := kKR_306.1 15 _ _ rfl; have := kKR_306.1 16 _ _ rfl; have := kKR_306.1 19 _ _ rfl; omega)
                          refine tr_ialdR (o := o0) (k := 7) I_306 q373 t_a374 (by decide) d_TrustDeskModel_fund_210 (vp_in_iff.mpr (by have := kKR_306.1 15 _ _ rfl; have := kKR_306.1 16 _ _ rfl; have := kKR_306.1 19 _ _ rfl; omega)) (fun v386 e387 => ?_)
                          have : v386.toInt = _ := Eq.trans e387 z380
                          have h388 : ((20 * (20 + v74)) + i6_306).toNatClampNeg = 20 * (20 + v74).toNatClampNeg + i6_306.toInt.toNat := by have := mz_nat9 (i := ((20 * (20 + v74)) + i6_306)) (by have := kKR_306.1 15 _ _ rfl; have := kKR_306.1 16 _ _ rfl; have := kKR_306.1 19 _ _ rfl; omega); have := mz_nat9 (i := (20 + v74)) (by have := kKR_306.1 15 _ _ rfl; have := kKR_306.1 16 _ _ rfl; have := kKR_306.1 19 _ _ rfl; omega); have := kKR_306.1 15 _ _ rfl; have := kKR_306.1 16 _ _ rfl; have := kKR_306.1 19 _ _ rfl; omega
                          have : v386.toInt = ra M76 o0 7 (20 * (20 + v74).toNatClampNeg + i6_306.toInt.toNat) := by have e9 := kKY_306 7 rfl; rw [← e9, e387, h388]
                          refine mv_bipush (v := 9) d_TrustDeskModel_fund_211 (by decide) ?_
                          have := mz_hi v386
                          refine mv_icmp_neZ (tgt := 244) (a := v386.toInt) (b := 9) d_TrustDeskModel_fund_213 (by decide) rfl (by decide) (fun b389 => ?_) (fun b389 => ?_)
                          · refine mv_aload_n d_TrustDeskModel_fund_244 rfl rfl ?_
                            refine tr_getK (k := 7) q373 d_TrustDeskModel_fund_245 f_TrustDeskModel_26_13 ?_
                            refine mv_iload d_TrustDeskModel_fund_248 rfl ?_
                            have b390 : (20 + v74 : Int32).toInt = (20 + v74.toInt) := mz_add2 (by decide) rfl (by have := kKR_306.1 15 _ _ rfl; have := kKR_306.1 16 _ _ rfl; have := kKR_306.1 19 _ _ rfl; omega) (by have := kKR_306.1 15 _ _ rfl; have := kKR_306.1 16 _ _ rfl; have := kKR_306.1 19 _ _ rfl; omega)
                            have b391 : (20 * (20 + v74) : Int32).toInt = (20 * (20 + v74.toInt)) := mz_mul2 (by decide) b390 (by have := kKR_306.1 15 _ _ rfl; have := kKR_306.1 16 _ _ rfl; have := kKR_306.1 19 _ _ rfl; omega) (by have := kKR_306.1 15 _ _ rfl; have := kKR_306.1 16 _ _ rfl; have := kKR_306.1 19 _ _ rfl; omega)
                            have b392 : ((20 * (20 + v74)) + i6_306 : Int32).toInt = ((20 * (20 + v74.toInt)) + i6_306.toInt) := mz_add2 b391 rfl (by have := kKR_306.1 15 _ _ rfl; have := kKR_306.1 16 _ _ rfl; have := kKR_306.1 19 _ _ rfl; omega) (by have := kKR_306.1 15 _ _ rfl; have := kKR_306.1 16 _ _ rfl; have := kKR_306.1 19 _ _ rfl; omega)
                            refine tr_ialdR (o := o0) (k := 7) I_306 q373 t_a374 (by decide) d_TrustDeskModel_fund_250 (vp_in_iff.mpr (by have := kKR_306.1 15 _ _ rfl; have := kKR_306.1 16 _ _ rfl; have := kKR_306.1 19 _ _ rfl; omega)) (fun v393 e394 => ?_)
                            have : v393.toInt = _ := Eq.trans e394 z380
                            have h395 : ((20 * (20 + v74)) + i6_306).toNatClampNeg = 20 * (20 + v74).toNatClampNeg + i6_306.toInt.toNat := by have := mz_nat9 (i := ((20 * (20 + v74)) + i6_306)) (by have := kKR_306.1 15 _ _ rfl; have := kKR_306.1 16 _ _ rfl; have := kKR_306.1 19 _ _ rfl; omega); have := mz_nat9 (i := (20 + v74)) (by have := kKR_306.1 15 _ _ rfl; have := kKR_306.1 16 _ _ rfl; have := kKR_306.1 19 _ _ rfl; omega); have := kKR_306.1 15 _ _ rfl; have := kKR_306.1 16 _ _ rfl; have := kKR_306.1 19 _ _ rfl; omega
                            have : v393.toInt = ra M76 o0 7 (20 * (20 + v74).toNatClampNeg + i6_306.toInt.toNat) := by have e9 := kKY_306 7 rfl; rw [← e9, e394, h395]
                            refine mv_bipush (v := 8) d_TrustDeskModel_fund_251 (by decide) ?_
                            have := mz_hi v393
                            refine mv_icmp_neZ (tgt := 268) (a := v393.toInt) (b := 8) d_TrustDeskModel_fund_253 (by decide) rfl (by decide) (fun b396 => ?_) (fun b396 => ?_)
                            · refine mv_iinc (v := (i6_306 + 1)) (lv' := [(6, .int (i6_306 + 1)), (7, .int ((20 * (20 + v74)) + i6_306)), (5, .int v74), (4, .int v83), (3, .int (20 + v74)), (0, .ref o0), (1, .int x1), (2, .int x2)]) d_TrustDeskModel_fund_268 rfl rfl (by decide) rfl ?_
                              refine mv_goto (tgt := 155) d_TrustDeskModel_fund_271 (by decide) ?_
                              have b397 : (i6_306 + 1 : Int32).toInt = (i6_306.toInt + 1) := mz_add2 rfl (by decide) (by have := kKR_306.1 15 _ _ rfl; have := kKR_306.1 16 _ _ rfl; have := kKR_306.1 19 _ _ rfl; omega) (by have := kKR_306.1 15 _ _ rfl; have := kKR_306.1 16 _ _ rfl; have := kKR_306.1 19 _ _ rfl; omega)
                              refine mv_locals (lv' := [(6, .int (i6_306 + 1)), (5, .int v74), (4, .int v83), (3, .int (20 + v74)), (0, .ref o0), (1, .int x1), (2, .int x2)]) (by intro q hq; simp only [List.mem_cons, List.not_mem_nil, or_false] at hq; rcases hq with rfl | rfl | rfl | rfl | rfl | rfl | rfl <;> rfl) ?_
                              have b398 : (i6_306 + 1).toInt = i6_306.toInt + 1 := mz_addn 1 1 (by decide) (by have := mz_lo i6_306; omega) (by have := mz_hi i6_306; omega)
                              exact (ih306 (i6_306 + 1) T_306 M_306 n_306 I_306 h_q0_306 (by have := kKR_306.1 15 _ _ rfl; have := kKR_306.1 16 _ _ rfl; have := kKR_306.1 19 _ _ rfl; first | omega | decide | exact fun h9 => absurd (by decide) h9) (by have := kKR_306.1 15 _ _ rfl; have := kKR_306.1 16 _ _ rfl; have := kKR_306.1 19 _ _ rfl; first | omega | decide | exact fun h9 => absurd (by decide) h9) (by have := kKR_306.1 15 _ _ rfl; have := kKR_306.1 16 _ _ rfl; have := kKR_306.1 19 _ _ rfl; first | omega | decide | exact fun h9 => absurd (by decide) h9) (by have := kKR_306.1 15 _ _ rfl; have := kKR_306.1 16 _ _ rfl; have := kKR_306.1 19 _ _ rfl; first | omega | decide | exact fun h9 => absurd (by decide) h9) (by have := kKR_306.1 15 _ _ rfl; have := kKR_306.1 16 _ _ rfl; have := kKR_306.1 19 _ _ rfl; first | omega | decide | exact fun h9 => absurd (by decide) h9) (by have := kKR_306.1 15 _ _ rfl; have := kKR_306.1 16 _ _ rfl; have := kKR_306.1 19 _ _ rfl; first | omega | decide | exact fun h9 => absurd (by decide) h9) (by have := kKR_306.1 15 _ _ rfl; have := kKR_306.1 16 _ _ rfl; have := kKR_306.1 19 _ _ rfl; first | omega | decide | exact fun h9 => absurd (by decide) h9) (by rw [show (i6_306 + 1 : Int32).toInt.toNat = i6_306.toInt.toNat + 1 from by omega]; have := kKR_306.1 15 _ _ rfl; have := kKR_306.1 16 _ _ rfl; have := kKR_306.1 19 _ _ rfl; omega) (by have := kKR_306.1 15 _ _ rfl; have := kKR_306.1 16 _ _ rfl; have := kKR_306.1 19 _ _ rfl; first | omega | decide | exact fun h9 => absurd (by decide) h9) (by have := kKR_306.1 15 _ _ rfl; have := kKR_306.1 16 _ _ rfl; have := kKR_306.1 19 _ _ rfl; first | omega | decide | exact fun h9 => absurd (by decide) h9) (by have := kKR_306.1 15 _ _ rfl; have := kKR_306.1 16 _ _ rfl; have := kKR_306.1 19 _ _ rfl; first | omega | decide | exact fun h9 => absurd (by decide) h9) kKR_306 kKP_306 kKB_306 kKY_306 kKC_306 (by have := kKR_306.1 15 _ _ rfl; have := kKR_306.1 16 _ _ rfl; have := kKR_306.1 19 _ _ rfl; omega))
                            · refine mv_aload_n d_TrustDeskModel_fund_256 rfl rfl ?_
                              refine mv_iload d_TrustDeskModel_fund_257 rfl ?_
                              refine mv_iload_n d_TrustDeskModel_fund_259 rfl rfl ?_
                              refine mv_iload d_TrustDeskModel_fund_260 rfl ?_
                              refine mv_iconst (v := 0) d_TrustDeskModel_fund_262 (by decide) ?_
                              refine mv_iconst (v := 0) d_TrustDeskModel_fund_263 (by decide) ?_
                              refine mv_iconst (v := (-1)) d_TrustDeskModel_fund_264 (by decide) ?_
                              obtain ⟨_, b405, -⟩ := I_306.1 _ _ h_q0_306
                              have b406 : (20 + v74 : Int32).toInt = (20 + v74.toInt) := mz_add2 (by decide) rfl (by have := kKR_306.1 15 _ _ rfl; have := kKR_306.1 16 _ _ rfl; have := kKR_306.1 19 _ _ rfl; omega) (by have := kKR_306.1 15 _ _ rfl; have := kKR_306.1 16 _ _ rfl; have := kKR_306.1 19 _ _ rfl; omega)
                              have b407 : (20 + v74 : Int32).toInt = (20 + v74.toInt) := mz_add2 (by decide) rfl (by have := kKR_306.1 15 _ _ rfl; have := kKR_306.1 16 _ _ rfl; have := kKR_306.1 19 _ _ rfl; omega) (by have := kKR_306.1 15 _ _ rfl; have := kKR_306.1 16 _ _ rfl; have := kKR_306.1 19 _ _ rfl; omega)
                              have b408 : (20 * (20 + v74) : Int32).toInt = (20 * (20 + v74.toInt)) := mz_mul2 (by decide) b407 (by have := kKR_306.1 15 _ _ rfl; have := kKR_306.1 16 _ _ rfl; have := kKR_306.1 19 _ _ rfl; omega) (by have := kKR_306.1 15 _ _ rfl; have := kKR_306.1 16 _ _ rfl; have := kKR_306.1 19 _ _ rfl; omega)
                              have b409 : ((20 * (20 + v74)) + i6_306 : Int32).toInt = ((20 * (20 + v74.toInt)) + i6_306.toInt) := mz_add2 b408 rfl (by have := kKR_306.1 15 _ _ rfl; have := kKR_306.1 16 _ _ rfl; have := kKR_306.1 19 _ _ rfl; omega) (by have := kKR_306.1 15 _ _ rfl; have := kKR_306.1 16 _ _ rfl; have := kKR_306.1 19 _ _ rfl; omega)
                              have : (0 : Int32).toInt = 0 := by decide
                              have : (0 : Int32).toInt = 0 := by decide
                              have : ((-1) : Int32).toInt = (-1) := by decide
                              refine mv_callV (kc' := 0) (ks' := 0) (As := [.int v74, .int (20 + v74), .int ((20 * (20 + v74)) + i6_306), .int 0, .int 0, .int (-1)]) (st9 := [.int (-1), .int 0, .int 0, .int ((20 * (20 + v74)) + i6_306), .int (20 + v74), .int v74, .ref o0]) d_TrustDeskModel_fund_265 lV_TrustDeskModel_428 b405 rfl (tc_TrustDeskModel_addEnd_x (d := (d + 26)) (x9 := x9) (o0 := o0) (x1 := v74) (x2 := (20 + v74)) (x3 := ((20 * (20 + v74)) + i6_306)) (x4 := 0) (x5 := 0) (x6 := (-1)) h_q0_306 (by have := kKR_306.1 15 _ _ rfl; have := kKR_306.1 16 _ _ rfl; have := kKR_306.1 19 _ _ rfl; omega) (by have := kKR_306.1 15 _ _ rfl; have := kKR_306.1 16 _ _ rfl; have := kKR_306.1 19 _ _ rfl; omega) (by have := kKR_306.1 15 _ _ rfl; have := kKR_306.1 16 _ _ rfl; have := kKR_306.1 19 _ _ rfl; omega) kKR_306 (by have := kKR_306.1 15 _ _ rfl; have := kKR_306.1 16 _ _ rfl; have := kKR_306.1 19 _ _ rfl; omega) I_306.start) rfl (Nat.le_of_ble_eq_true rfl) (Nat.le_of_ble_eq_true rfl) (Nat.le_of_ble_eq_true rfl) (hst := rfl) (fun b399r M400 n401 b399 => ?_)
                              obtain ⟨T402, J403, rfl, R410, f411⟩ := b399
                              have I404 := I_306.call J403 (tm_sub (by decide)) (Or.inl rfl)
                              have t412 := J403.up h_q0_306
                              have z413 := (rv_c I_306 J403 (I_306.up h_o0) (k := 15) rfl)
                              have z414 := (rv_c I_306 J403 (I_306.up h_o0) (k := 16) rfl)
                              have z415 := (rv_c I_306 J403 (I_306.up h_o0) (k := 17) rfl)
                              have z416 := (rv_c I_306 J403 (I_306.up h_o0) (k := 19) rfl)
                              have z417 := (rv_c I_306 J403 (I_306.up h_o0) (k := 22) rfl)
                              have z418 := (rv_c I_306 J403 (I_306.up h_o0) (k := 24) rfl)
                              have z419 := (rv_c I_306 J403 (I_306.up h_o0) (k := 27) rfl)
                              have z420 := (rv_c I_306 J403 (I_306.up h_o0) (k := 32) rfl)
                              have z421 := (rv_c I_306 J403 (I_306.up h_o0) (k := 49) rfl)
                              have z422 := (rv_c I_306 J403 (I_306.up h_o0) (k := 14) rfl)
                              have z423 := (rv_c I_306 J403 (I_306.up h_o0) (k := 21) rfl)
                              have z424 := (ra_call I_306 J403 (I_306.up h_o0) (k := 5) rfl rfl rfl 44)
                              have z425 := (ra_call I_306 J403 (I_306.up h_o0) (k := 6) rfl rfl rfl 44)
                              have z426 := (ra_call I_306 J403 (I_306.up h_o0) (k := 6) rfl rfl rfl ((20 + v74).toNatClampNeg))
                              have z427 := (ra_call I_306 J403 (I_306.up h_o0) (k := 37) rfl rfl rfl v74.toNatClampNeg)
                              have z428 := (ra_call I_306 J403 (I_306.up h_o0) (k := 7) rfl rfl rfl (((20 * (20 + v74)) + i6_306).toNatClampNeg)).trans z380
                              have K429 : rP M400 o0 := kKP_306.same (sA_c I_306 J403 (I_306.up h_o0) (by decide +kernel)) (sF_c I_306 J403 (I_306.up h_o0) (by decide +kernel))
                              have K430 : rB M400 o0 v74.toNatClampNeg := kKB_306.add f411 (sA_c I_306 J403 (I_306.up h_o0) (by decide)) (sF_c I_306 J403 (I_306.up h_o0) (by decide)) (by have := mz_nat9 (i := v74) (by have := kKR_306.1 15 _ _ rfl; have := kKR_306.1 16 _ _ rfl; have := kKR_306.1 19 _ _ rfl; omega); have := kKR_306.1 15 _ _ rfl; have := kKR_306.1 16 _ _ rfl; have := kKR_306.1 19 _ _ rfl; omega)
                              have K431 : sA [7] M76 M400 o0 := kKY_306.trans (sA_c I_306 J403 (I_306.up h_o0) (by decide +kernel))
                              have K432 : rC M400 o0 ((20 + v74).toNatClampNeg) := kKC_306.add kKR_306 f411 (by have := mz_nat9 (i := v74) (by have := kKR_306.1 15 _ _ rfl; have := kKR_306.1 16 _ _ rfl; have := kKR_306.1 19 _ _ rfl; omega); have := kKR_306.1 15 _ _ rfl; have := kKR_306.1 16 _ _ rfl; have := kKR_306.1 19 _ _ rfl; omega) i6_306.toInt.toNat (by have := kKR_306.1 15 _ _ rfl; have := kKR_306.1 16 _ _ rfl; have := kKR_306.1 19 _ _ rfl; omega) (by have := mz_nat9 (i := i6_306) (by have := kKR_306.1 15 _ _ rfl; have := kKR_306.1 16 _ _ rfl; have := kKR_306.1 19 _ _ rfl; omega); have := kKR_306.1 15 _ _ rfl; have := kKR_306.1 16 _ _ rfl; have := kKR_306.1 19 _ _ rfl; omega) (by rw [show ((20 * (20 + v74)) + i6_306).toInt.toNat = ((20 * (20 + v74)) + i6_306).toNatClampNeg from by have := mz_nat9 (i := ((20 * (20 + v74)) + i6_306)) (by have := kKR_306.1 15 _ _ rfl; have := kKR_306.1 16 _ _ rfl; have := kKR_306.1 19 _ _ rfl; omega); have := kKR_306.1 15 _ _ rfl; have := kKR_306.1 16 _ _ rfl; have := kKR_306.1 19 _ _ rfl; omega]; omega) (sA_c I_306 J403 (I_306.up h_o0) (by decide)) (sF_c I_306 J403 (I_306.up h_o0) (by decide))
                              have := f411.2.2 v74.toNatClampNeg
                              rw [if_pos rfl] at this
                              clear z380
                              have q433 := J403.keep h_q0_306 (by decide) q307
                              have t434 := J403.up t_a308
                              have q435 := J403.keep h_q0_306 (by decide) q373
                              have t436 := J403.up t_a374
                              refine mv_iinc (v := (i6_306 + 1)) (lv' := [(6, .int (i6_306 + 1)), (7, .int ((20 * (20 + v74)) + i6_306)), (5, .int v74), (4, .int v83), (3, .int (20 + v74)), (0, .ref o0), (1, .int x1), (2, .int x2)]) d_TrustDeskModel_fund_268 rfl rfl (by decide) rfl ?_
                              refine mv_goto (tgt := 155) d_TrustDeskModel_fund_271 (by decide) ?_
                              have b437 : (i6_306 + 1 : Int32).toInt = (i6_306.toInt + 1) := mz_add2 rfl (by decide) (by have := R410.1 15 _ _ rfl; have := R410.1 16 _ _ rfl; have := R410.1 19 _ _ rfl; omega) (by have := R410.1 15 _ _ rfl; have := R410.1 16 _ _ rfl; have := R410.1 19 _ _ rfl; omega)
                              refine mv_locals (lv' := [(6, .int (i6_306 + 1)), (5, .int v74), (4, .int v83), (3, .int (20 + v74)), (0, .ref o0), (1, .int x1), (2, .int x2)]) (by intro q hq; simp only [List.mem_cons, List.not_mem_nil, or_false] at hq; rcases hq with rfl | rfl | rfl | rfl | rfl | rfl | rfl <;> rfl) ?_
                              have b438 : (i6_306 + 1).toInt = i6_306.toInt + 1 := mz_addn 1 1 (by decide) (by have := mz_lo i6_306; omega) (by have := mz_hi i6_306; omega)
                              exact (ih306 (i6_306 + 1) T402 M400 n401 I404 t412 (by have := R410.1 15 _ _ rfl; have := R410.1 16 _ _ rfl; have := R410.1 19 _ _ rfl; first | omega | decide | exact fun h9 => absurd (by decide) h9) (by have := R410.1 15 _ _ rfl; have := R410.1 16 _ _ rfl; have := R410.1 19 _ _ rfl; first | omega | decide | exact fun h9 => absurd (by decide) h9) (by have := R410.1 15 _ _ rfl; have := R410.1 16 _ _ rfl; have := R410.1 19 _ _ rfl; first | omega | decide | exact fun h9 => absurd (by decide) h9) (by have := R410.1 15 _ _ rfl; have := R410.1 16 _ _ rfl; have := R410.1 19 _ _ rfl; first | omega | decide | exact fun h9 => absurd (by decide) h9) (by have := R410.1 15 _ _ rfl; have := R410.1 16 _ _ rfl; have := R410.1 19 _ _ rfl; first | omega | decide | exact fun h9 => absurd (by decide) h9) (by have := R410.1 15 _ _ rfl; have := R410.1 16 _ _ rfl; have := R410.1 19 _ _ rfl; first | omega | decide | exact fun h9 => absurd (by decide) h9) (by have := R410.1 15 _ _ rfl; have := R410.1 16 _ _ rfl; have := R410.1 19 _ _ rfl; first | omega | decide | exact fun h9 => absurd (by decide) h9) (by rw [show (i6_306 + 1 : Int32).toInt.toNat = i6_306.toInt.toNat + 1 from by omega]; have := R410.1 15 _ _ rfl; have := R410.1 16 _ _ rfl; have := R410.1 19 _ _ rfl; omega) (by have := R410.1 15 _ _ rfl; have := R410.1 16 _ _ rfl; have := R410.1 19 _ _ rfl; first | omega | decide | exact fun h9 => absurd (by decide) h9) (by have := R410.1 15 _ _ rfl; have := R410.1 16 _ _ rfl; have := R410.1 19 _ _ rfl; first | omega | decide | exact fun h9 => absurd (by decide) h9) (by have := R410.1 15 _ _ rfl; have := R410.1 16 _ _ rfl; have := R410.1 19 _ _ rfl; first | omega | decide | exact fun h9 => absurd (by decide) h9) R410 K429 K430 K431 K432 (by have := R410.1 15 _ _ rfl; have := R410.1 16 _ _ rfl; have := R410.1 19 _ _ rfl; omega))
                          · refine mv_aload_n d_TrustDeskModel_fund_216 rfl rfl ?_
                            obtain ⟨a440, q439, t_a440⟩ := tm_atR I_306 h_q0_306 (k := 38) rfl
                            refine tr_getK q439 d_TrustDeskModel_fund_217 f_TrustDeskModel_82_13 ?_
                            refine mv_iload d_TrustDeskModel_fund_220 rfl ?_
                            refine mv_aload_n d_TrustDeskModel_fund_222 rfl rfl ?_
                            obtain ⟨a442, q441, t_a442⟩ := tm_atR I_306 h_q0_306 (k := 8) rfl
                            refine tr_getK q441 d_TrustDeskModel_fund_223 f_TrustDeskModel_29_13 ?_
                            refine mv_iload d_TrustDeskModel_fund_226 rfl ?_
                            have b443 : (20 + v74 : Int32).toInt = (20 + v74.toInt) := mz_add2 (by decide) rfl (by have := kKR_306.1 15 _ _ rfl; have := kKR_306.1 16 _ _ rfl; have := kKR_306.1 19 _ _ rfl; omega) (by have := kKR_306.1 15 _ _ rfl; have := kKR_306.1 16 _ _ rfl; have := kKR_306.1 19 _ _ rfl; omega)
                            have b444 : (20 * (20 + v74) : Int32).toInt = (20 * (20 + v74.toInt)) := mz_mul2 (by decide) b443 (by have := kKR_306.1 15 _ _ rfl; have := kKR_306.1 16 _ _ rfl; have := kKR_306.1 19 _ _ rfl; omega) (by have := kKR_306.1 15 _ _ rfl; have := kKR_306.1 16 _ _ rfl; have := kKR_306.1 19 _ _ rfl; omega)
                            have b445 : ((20 * (20 + v74)) + i6_306 : Int32).toInt = ((20 * (20 + v74.toInt)) + i6_306.toInt) := mz_add2 b444 rfl (by have := kKR_306.1 15 _ _ rfl; have := kKR_306.1 16 _ _ rfl; have := kKR_306.1 19 _ _ rfl; omega) (by have := kKR_306.1 15 _ _ rfl; have := kKR_306.1 16 _ _ rfl; have := kKR_306.1 19 _ _ rfl; omega)
                            refine tr_ialdR (o := o0) (k := 8) I_306 q441 t_a442 (by decide) d_TrustDeskModel_fund_228 (vp_in_iff.mpr (by have := kKR_306.1 15 _ _ rfl; have := kKR_306.1 16 _ _ rfl; have := kKR_306.1 19 _ _ rfl; omega)) (fun v446 e447 => ?_)
                            have := kKR_306.a (k := 8) rfl (((20 * (20 + v74)) + i6_306) : Int32).toNatClampNeg
                            refine tr_iastR (k := 38) I_306 kKR_306 (I_306.up h_o0) q439 t_a440 (by decide) (by decide) (fun lo hi h => by cases h) (Or.inl (by decide)) d_TrustDeskModel_fund_229 (vp_in_iff.mpr (by have := kKR_306.1 15 _ _ rfl; have := kKR_306.1 16 _ _ rfl; have := kKR_306.1 19 _ _ rfl; omega)) (fun M448 I449 K450 R451 E452 A453 V454 => ?_)
                            have z455 := (V454 15)
                            have z456 := (V454 16)
                            have z457 := (V454 17)
                            have z458 := (V454 19)
                            have z459 := (V454 22)
                            have z460 := (V454 24)
                            have z461 := (V454 27)
                            have z462 := (V454 32)
                            have z463 := (V454 49)
                            have z464 := (V454 14)
                            have z465 := (V454 21)
                            have z466 := (A453 5 (by decide) rfl 44)
                            have z467 := (A453 6 (by decide) rfl 44)
                            have z468 := (A453 6 (by decide) rfl ((20 + v74).toNatClampNeg))
                            have z469 := (A453 43 (by decide) rfl v74.toNatClampNeg)
                            have z470 := (A453 37 (by decide) rfl v74.toNatClampNeg)
                            have z471 := (A453 7 (by decide) rfl (((20 * (20 + v74)) + i6_306).toNatClampNeg)).trans z380
                            have K472 : rP M448 o0 := kKP_306.same (sA_a A453 (by decide +kernel)) (sF_a V454)
                            have K473 : rB M448 o0 v74.toNatClampNeg := kKB_306.same (sA_a A453 (by decide +kernel)) (sF_a V454)
                            have K474 : sA [7] M76 M448 o0 := kKY_306.trans (sA_a A453 (by decide +kernel))
                            have K475 : rC M448 o0 ((20 + v74).toNatClampNeg) := kKC_306.same (sA_a A453 (by decide +kernel)) (sF_a V454)
                            clear z380
                            refine mv_aload_n d_TrustDeskModel_fund_230 rfl rfl ?_
                            obtain ⟨a477, q476, t_a477⟩ := tm_atR I449 h_q0_306 (k := 39) rfl
                            refine tr_getK q476 d_TrustDeskModel_fund_231 f_TrustDeskModel_85_13 ?_
                            refine mv_iload d_TrustDeskModel_fund_234 rfl ?_
                            refine mv_aload_n d_TrustDeskModel_fund_236 rfl rfl ?_
                            obtain ⟨a479, q478, t_a479⟩ := tm_atR I449 h_q0_306 (k := 9) rfl
                            refine tr_getK q478 d_TrustDeskModel_fund_237 f_TrustDeskModel_32_13 ?_
                            refine mv_iload d_TrustDeskModel_fund_240 rfl ?_
                            have b480 : (20 + v74 : Int32).toInt = (20 + v74.toInt) := mz_add2 (by decide) rfl (by have := R451.1 15 _ _ rfl; have := R451.1 16 _ _ rfl; have := R451.1 19 _ _ rfl; omega) (by have := R451.1 15 _ _ rfl; have := R451.1 16 _ _ rfl; have := R451.1 19 _ _ rfl; omega)
                            have b481 : (20 * (20 + v74) : Int32).toInt = (20 * (20 + v74.toInt)) := mz_mul2 (by decide) b480 (by have := R451.1 15 _ _ rfl; have := R451.1 16 _ _ rfl; have := R451.1 19 _ _ rfl; omega) (by have := R451.1 15 _ _ rfl; have := R451.1 16 _ _ rfl; have := R451.1 19 _ _ rfl; omega)
                            have b482 : ((20 * (20 + v74)) + i6_306 : Int32).toInt = ((20 * (20 + v74.toInt)) + i6_306.toInt) := mz_add2 b481 rfl (by have := R451.1 15 _ _ rfl; have := R451.1 16 _ _ rfl; have := R451.1 19 _ _ rfl; omega) (by have := R451.1 15 _ _ rfl; have := R451.1 16 _ _ rfl; have := R451.1 19 _ _ rfl; omega)
                            refine tr_ialdR (o := o0) (k := 9) I449 q478 t_a479 (by decide) d_TrustDeskModel_fund_242 (vp_in_iff.mpr (by have := R451.1 15 _ _ rfl; have := R451.1 16 _ _ rfl; have := R451.1 19 _ _ rfl; omega)) (fun v483 e484 => ?_)
                            refine tr_iastR (k := 39) I449 R451 (I449.up h_o0) q476 t_a477 (by decide) (by decide) (fun lo hi h => by cases h) (Or.inl (by decide)) d_TrustDeskModel_fund_243 (vp_in_iff.mpr (by have := R451.1 15 _ _ rfl; have := R451.1 16 _ _ rfl; have := R451.1 19 _ _ rfl; omega)) (fun M485 I486 K487 R488 E489 A490 V491 => ?_)
                            have z492 := (V491 15).trans z455
                            have z493 := (V491 16).trans z456
                            have z494 := (V491 17).trans z457
                            have z495 := (V491 19).trans z458
                            have z496 := (V491 22).trans z459
                            have z497 := (V491 24).trans z460
                            have z498 := (V491 27).trans z461
                            have z499 := (V491 32).trans z462
                            have z500 := (V491 49).trans z463
                            have z501 := (V491 14).trans z464
                            have z502 := (V491 21).trans z465
                            have z503 := (A490 5 (by decide) rfl 44).trans z466
                            have z504 := (A490 6 (by decide) rfl 44).trans z467
                            have z505 := (A490 6 (by decide) rfl ((20 + v74).toNatClampNeg)).trans z468
                            have z506 := (A490 43 (by decide) rfl v74.toNatClampNeg).trans z469
                            have z507 := (A490 37 (by decide) rfl v74.toNatClampNeg).trans z470
                            have z508 := (A490 7 (by decide) rfl (((20 * (20 + v74)) + i6_306).toNatClampNeg)).trans z471
                            have K509 : rP M485 o0 := K472.same (sA_a A490 (by decide +kernel)) (sF_a V491)
                            have K510 : rB M485 o0 v74.toNatClampNeg := K473.same (sA_a A490 (by decide +kernel)) (sF_a V491)
                            have K511 : sA [7] M76 M485 o0 := K474.trans (sA_a A490 (by decide +kernel))
                            have K512 : rC M485 o0 ((20 + v74).toNatClampNeg) := K475.same (sA_a A490 (by decide +kernel)) (sF_a V491)
                            clear z455 z456 z457 z459 z460 z461 z462 z463 z464 z465 z466 z467 z468 z469 z470 z471
                            refine mv_aload_n d_TrustDeskModel_fund_244 rfl rfl ?_
                            refine tr_getK (k := 7) (K487 _ 13 7 _ (K450 _ 13 7 _ q373)) d_TrustDeskModel_fund_245 f_TrustDeskModel_26_13 ?_
                            refine mv_iload d_TrustDeskModel_fund_248 rfl ?_
                            have b513 : (20 + v74 : Int32).toInt = (20 + v74.toInt) := mz_add2 (by decide) rfl (by have := R488.1 15 _ _ rfl; have := R488.1 16 _ _ rfl; have := R488.1 19 _ _ rfl; omega) (by have := R488.1 15 _ _ rfl; have := R488.1 16 _ _ rfl; have := R488.1 19 _ _ rfl; omega)
                            have b514 : (20 * (20 + v74) : Int32).toInt = (20 * (20 + v74.toInt)) := mz_mul2 (by decide) b513 (by have := R488.1 15 _ _ rfl; have := R488.1 16 _ _ rfl; have := R488.1 19 _ _ rfl; omega) (by have := R488.1 15 _ _ rfl; have := R488.1 16 _ _ rfl; have := R488.1 19 _ _ rfl; omega)
                            have b515 : ((20 * (20 + v74)) + i6_306 : Int32).toInt = ((20 * (20 + v74.toInt)) + i6_306.toInt) := mz_add2 b514 rfl (by have := R488.1 15 _ _ rfl; have := R488.1 16 _ _ rfl; have := R488.1 19 _ _ rfl; omega) (by have := R488.1 15 _ _ rfl; have := R488.1 16 _ _ rfl; have := R488.1 19 _ _ rfl; omega)
                            refine tr_ialdR (o := o0) (k := 7) I486 (K487 _ 13 7 _ (K450 _ 13 7 _ q373)) t_a374 (by decide) d_TrustDeskModel_fund_250 (vp_in_iff.mpr (by have := R488.1 15 _ _ rfl; have := R488.1 16 _ _ rfl; have := R488.1 19 _ _ rfl; omega)) (fun v516 e517 => ?_)
                            have : v516.toInt = _ := Eq.trans e517 z508
                            have h518 : ((20 * (20 + v74)) + i6_306).toNatClampNeg = 20 * (20 + v74).toNatClampNeg + i6_306.toInt.toNat := by have := mz_nat9 (i := ((20 * (20 + v74)) + i6_306)) (by have := R488.1 15 _ _ rfl; have := R488.1 16 _ _ rfl; have := R488.1 19 _ _ rfl; omega); have := mz_nat9 (i := (20 + v74)) (by have := R488.1 15 _ _ rfl; have := R488.1 16 _ _ rfl; have := R488.1 19 _ _ rfl; omega); have := R488.1 15 _ _ rfl; have := R488.1 16 _ _ rfl; have := R488.1 19 _ _ rfl; omega
                            have : v516.toInt = ra M76 o0 7 (20 * (20 + v74).toNatClampNeg + i6_306.toInt.toNat) := by have e9 := K511 7 rfl; rw [← e9, e517, h518]
                            refine mv_bipush (v := 8) d_TrustDeskModel_fund_251 (by decide) ?_
                            have := mz_hi v516
                            refine mv_icmp_neZ (tgt := 268) (a := v516.toInt) (b := 8) d_TrustDeskModel_fund_253 (by decide) rfl (by decide) (fun b519 => ?_) (fun b519 => ?_)
                            · refine mv_iinc (v := (i6_306 + 1)) (lv' := [(6, .int (i6_306 + 1)), (7, .int ((20 * (20 + v74)) + i6_306)), (5, .int v74), (4, .int v83), (3, .int (20 + v74)), (0, .ref o0), (1, .int x1), (2, .int x2)]) d_TrustDeskModel_fund_268 rfl rfl (by decide) rfl ?_
                              refine mv_goto (tgt := 155) d_TrustDeskModel_fund_271 (by decide) ?_
                              have b520 : (i6_306 + 1 : Int32).toInt = (i6_306.toInt + 1) := mz_add2 rfl (by decide) (by have := R488.1 15 _ _ rfl; have := R488.1 16 _ _ rfl; have := R488.1 19 _ _ rfl; omega) (by have := R488.1 15 _ _ rfl; have := R488.1 16 _ _ rfl; have := R488.1 19 _ _ rfl; omega)
                              refine mv_locals (lv' := [(6, .int (i6_306 + 1)), (5, .int v74), (4, .int v83), (3, .int (20 + v74)), (0, .ref o0), (1, .int x1), (2, .int x2)]) (by intro q hq; simp only [List.mem_cons, List.not_mem_nil, or_false] at hq; rcases hq with rfl | rfl | rfl | rfl | rfl | rfl | rfl <;> rfl) ?_
                              have b521 : (i6_306 + 1).toInt = i6_306.toInt + 1 := mz_addn 1 1 (by decide) (by have := mz_lo i6_306; omega) (by have := mz_hi i6_306; omega)
                              exact (ih306 (i6_306 + 1) T_306 M485 n_306 I486 h_q0_306 (by have := R488.1 15 _ _ rfl; have := R488.1 16 _ _ rfl; have := R488.1 19 _ _ rfl; first | omega | decide | exact fun h9 => absurd (by decide) h9) (by have := R488.1 15 _ _ rfl; have := R488.1 16 _ _ rfl; have := R488.1 19 _ _ rfl; first | omega | decide | exact fun h9 => absurd (by decide) h9) (by have := R488.1 15 _ _ rfl; have := R488.1 16 _ _ rfl; have := R488.1 19 _ _ rfl; first | omega | decide | exact fun h9 => absurd (by decide) h9) (by have := R488.1 15 _ _ rfl; have := R488.1 16 _ _ rfl; have := R488.1 19 _ _ rfl; first | omega | decide | exact fun h9 => absurd (by decide) h9) (by have := R488.1 15 _ _ rfl; have := R488.1 16 _ _ rfl; have := R488.1 19 _ _ rfl; first | omega | decide | exact fun h9 => absurd (by decide) h9) (by have := R488.1 15 _ _ rfl; have := R488.1 16 _ _ rfl; have := R488.1 19 _ _ rfl; first | omega | decide | exact fun h9 => absurd (by decide) h9) (by have := R488.1 15 _ _ rfl; have := R488.1 16 _ _ rfl; have := R488.1 19 _ _ rfl; first | omega | decide | exact fun h9 => absurd (by decide) h9) (by rw [show (i6_306 + 1 : Int32).toInt.toNat = i6_306.toInt.toNat + 1 from by omega]; have := R488.1 15 _ _ rfl; have := R488.1 16 _ _ rfl; have := R488.1 19 _ _ rfl; omega) (by have := R488.1 15 _ _ rfl; have := R488.1 16 _ _ rfl; have := R488.1 19 _ _ rfl; first | omega | decide | exact fun h9 => absurd (by decide) h9) (by have := R488.1 15 _ _ rfl; have := R488.1 16 _ _ rfl; have := R488.1 19 _ _ rfl; first | omega | decide | exact fun h9 => absurd (by decide) h9) (by have := R488.1 15 _ _ rfl; have := R488.1 16 _ _ rfl; have := R488.1 19 _ _ rfl; first | omega | decide | exact fun h9 => absurd (by decide) h9) R488 K509 K510 K511 K512 (by have := R488.1 15 _ _ rfl; have := R488.1 16 _ _ rfl; have := R488.1 19 _ _ rfl; omega))
                            · refine mv_aload_n d_TrustDeskModel_fund_256 rfl rfl ?_
                              refine mv_iload d_TrustDeskModel_fund_257 rfl ?_
                              refine mv_iload_n d_TrustDeskModel_fund_259 rfl rfl ?_
                              refine mv_iload d_TrustDeskModel_fund_260 rfl ?_
                              refine mv_iconst (v := 0) d_TrustDeskModel_fund_262 (by decide) ?_
                              refine mv_iconst (v := 0) d_TrustDeskModel_fund_263 (by decide) ?_
                              refine mv_iconst (v := (-1)) d_TrustDeskModel_fund_264 (by decide) ?_
                              obtain ⟨_, b528, -⟩ := I486.1 _ _ h_q0_306
                              have b529 : (20 + v74 : Int32).toInt = (20 + v74.toInt) := mz_add2 (by decide) rfl (by have := R488.1 15 _ _ rfl; have := R488.1 16 _ _ rfl; have := R488.1 19 _ _ rfl; omega) (by have := R488.1 15 _ _ rfl; have := R488.1 16 _ _ rfl; have := R488.1 19 _ _ rfl; omega)
                              have b530 : (20 + v74 : Int32).toInt = (20 + v74.toInt) := mz_add2 (by decide) rfl (by have := R488.1 15 _ _ rfl; have := R488.1 16 _ _ rfl; have := R488.1 19 _ _ rfl; omega) (by have := R488.1 15 _ _ rfl; have := R488.1 16 _ _ rfl; have := R488.1 19 _ _ rfl; omega)
                              have b531 : (20 * (20 + v74) : Int32).toInt = (20 * (20 + v74.toInt)) := mz_mul2 (by decide) b530 (by have := R488.1 15 _ _ rfl; have := R488.1 16 _ _ rfl; have := R488.1 19 _ _ rfl; omega) (by have := R488.1 15 _ _ rfl; have := R488.1 16 _ _ rfl; have := R488.1 19 _ _ rfl; omega)
                              have b532 : ((20 * (20 + v74)) + i6_306 : Int32).toInt = ((20 * (20 + v74.toInt)) + i6_306.toInt) := mz_add2 b531 rfl (by have := R488.1 15 _ _ rfl; have := R488.1 16 _ _ rfl; have := R488.1 19 _ _ rfl; omega) (by have := R488.1 15 _ _ rfl; have := R488.1 16 _ _ rfl; have := R488.1 19 _ _ rfl; omega)
                              have : (0 : Int32).toInt = 0 := by decide
                              have : (0 : Int32).toInt = 0 := by decide
                              have : ((-1) : Int32).toInt = (-1) := by decide
                              refine mv_callV (kc' := 0) (ks' := 0) (As := [.int v74, .int (20 + v74), .int ((20 * (20 + v74)) + i6_306), .int 0, .int 0, .int (-1)]) (st9 := [.int (-1), .int 0, .int 0, .int ((20 * (20 + v74)) + i6_306), .int (20 + v74), .int v74, .ref o0]) d_TrustDeskModel_fund_265 lV_TrustDeskModel_428 b528 rfl (tc_TrustDeskModel_addEnd_x (d := (d + 26)) (x9 := x9) (o0 := o0) (x1 := v74) (x2 := (20 + v74)) (x3 := ((20 * (20 + v74)) + i6_306)) (x4 := 0) (x5 := 0) (x6 := (-1)) h_q0_306 (by have := R488.1 15 _ _ rfl; have := R488.1 16 _ _ rfl; have := R488.1 19 _ _ rfl; omega) (by have := R488.1 15 _ _ rfl; have := R488.1 16 _ _ rfl; have := R488.1 19 _ _ rfl; omega) (by have := R488.1 15 _ _ rfl; have := R488.1 16 _ _ rfl; have := R488.1 19 _ _ rfl; omega) R488 (by have := R488.1 15 _ _ rfl; have := R488.1 16 _ _ rfl; have := R488.1 19 _ _ rfl; omega) I486.start) rfl (Nat.le_of_ble_eq_true rfl) (Nat.le_of_ble_eq_true rfl) (Nat.le_of_ble_eq_true rfl) (hst := rfl) (fun b522r M523 n524 b522 => ?_)
                              obtain ⟨T525, J526, rfl, R533, f534⟩ := b522
                              have I527 := I486.call J526 (tm_sub (by decide)) (Or.inl rfl)
                              have t535 := J526.up h_q0_306
                              have z536 := (rv_c I486 J526 (I486.up h_o0) (k := 15) rfl).trans z492
                              have z537 := (rv_c I486 J526 (I486.up h_o0) (k := 16) rfl).trans z493
                              have z538 := (rv_c I486 J526 (I486.up h_o0) (k := 17) rfl).trans z494
                              have z539 := (rv_c I486 J526 (I486.up h_o0) (k := 19) rfl).trans z495
                              have z540 := (rv_c I486 J526 (I486.up h_o0) (k := 22) rfl).trans z496
                              have z541 := (rv_c I486 J526 (I486.up h_o0) (k := 24) rfl).trans z497
                              have z542 := (rv_c I486 J526 (I486.up h_o0) (k := 27) rfl).trans z498
                              have z543 := (rv_c I486 J526 (I486.up h_o0) (k := 32) rfl).trans z499
                              have z544 := (rv_c I486 J526 (I486.up h_o0) (k := 49) rfl).trans z500
                              have z545 := (rv_c I486 J526 (I486.up h_o0) (k := 14) rfl).trans z501
                              have z546 := (rv_c I486 J526 (I486.up h_o0) (k := 21) rfl).trans z502
                              have z547 := (ra_call I486 J526 (I486.up h_o0) (k := 5) rfl rfl rfl 44).trans z503
                              have z548 := (ra_call I486 J526 (I486.up h_o0) (k := 6) rfl rfl rfl 44).trans z504
                              have z549 := (ra_call I486 J526 (I486.up h_o0) (k := 6) rfl rfl rfl ((20 + v74).toNatClampNeg)).trans z505
                              have z550 := (ra_call I486 J526 (I486.up h_o0) (k := 37) rfl rfl rfl v74.toNatClampNeg).trans z507
                              have z551 := (ra_call I486 J526 (I486.up h_o0) (k := 7) rfl rfl rfl (((20 * (20 + v74)) + i6_306).toNatClampNeg)).trans z508
                              have K552 : rP M523 o0 := K509.same (sA_c I486 J526 (I486.up h_o0) (by decide +kernel)) (sF_c I486 J526 (I486.up h_o0) (by decide +kernel))
                              have K553 : rB M523 o0 v74.toNatClampNeg := K510.add f534 (sA_c I486 J526 (I486.up h_o0) (by decide)) (sF_c I486 J526 (I486.up h_o0) (by decide)) (by have := mz_nat9 (i := v74) (by have := R488.1 15 _ _ rfl; have := R488.1 16 _ _ rfl; have := R488.1 19 _ _ rfl; omega); have := R488.1 15 _ _ rfl; have := R488.1 16 _ _ rfl; have := R488.1 19 _ _ rfl; omega)
                              have K554 : sA [7] M76 M523 o0 := K511.trans (sA_c I486 J526 (I486.up h_o0) (by decide +kernel))
                              have K555 : rC M523 o0 ((20 + v74).toNatClampNeg) := K512.add R488 f534 (by have := mz_nat9 (i := v74) (by have := R488.1 15 _ _ rfl; have := R488.1 16 _ _ rfl; have := R488.1 19 _ _ rfl; omega); have := R488.1 15 _ _ rfl; have := R488.1 16 _ _ rfl; have := R488.1 19 _ _ rfl; omega) i6_306.toInt.toNat (by have := R488.1 15 _ _ rfl; have := R488.1 16 _ _ rfl; have := R488.1 19 _ _ rfl; omega) (by have := mz_nat9 (i := i6_306) (by have := R488.1 15 _ _ rfl; have := R488.1 16 _ _ rfl; have := R488.1 19 _ _ rfl; omega); have := R488.1 15 _ _ rfl; have := R488.1 16 _ _ rfl; have := R488.1 19 _ _ rfl; omega) (by rw [show ((20 * (20 + v74)) + i6_306).toInt.toNat = ((20 * (20 + v74)) + i6_306).toNatClampNeg from by have := mz_nat9 (i := ((20 * (20 + v74)) + i6_306)) (by have := R488.1 15 _ _ rfl; have := R488.1 16 _ _ rfl; have := R488.1 19 _ _ rfl; omega); have := R488.1 15 _ _ rfl; have := R488.1 16 _ _ rfl; have := R488.1 19 _ _ rfl; omega]; omega) (sA_c I486 J526 (I486.up h_o0) (by decide)) (sF_c I486 J526 (I486.up h_o0) (by decide))
                              have := f534.2.2 v74.toNatClampNeg
                              rw [if_pos rfl] at this
                              clear z492 z493 z494 z496 z497 z498 z499 z500 z501 z502 z503 z504 z505 z507 z508
                              have q556 := J526.keep h_q0_306 (by decide) (K487 _ 13 6 _ (K450 _ 13 6 _ q307))
                              have t557 := J526.up t_a308
                              have q558 := J526.keep h_q0_306 (by decide) (K487 _ 13 7 _ (K450 _ 13 7 _ q373))
                              have t559 := J526.up t_a374
                              have q560 := J526.keep h_q0_306 (by decide) (K487 _ 13 38 _ (K450 _ 13 38 _ q439))
                              have t561 := J526.up t_a440
                              have q562 := J526.keep h_q0_306 (by decide) (K487 _ 13 8 _ (K450 _ 13 8 _ q441))
                              have t563 := J526.up t_a442
                              have q564 := J526.keep h_q0_306 (by decide) (K487 _ 13 39 _ q476)
                              have t565 := J526.up t_a477
                              have q566 := J526.keep h_q0_306 (by decide) (K487 _ 13 9 _ q478)
                              have t567 := J526.up t_a479
                              refine mv_iinc (v := (i6_306 + 1)) (lv' := [(6, .int (i6_306 + 1)), (7, .int ((20 * (20 + v74)) + i6_306)), (5, .int v74), (4, .int v83), (3, .int (20 + v74)), (0, .ref o0), (1, .int x1), (2, .int x2)]) d_TrustDeskModel_fund_268 rfl rfl (by decide) rfl ?_
                              refine mv_goto (tgt := 155) d_TrustDeskModel_fund_271 (by decide) ?_
                              have b568 : (i6_306 + 1 : Int32).toInt = (i6_306.toInt + 1) := mz_add2 rfl (by decide) (by have := R533.1 15 _ _ rfl; have := R533.1 16 _ _ rfl; have := R533.1 19 _ _ rfl; omega) (by have := R533.1 15 _ _ rfl; have := R533.1 16 _ _ rfl; have := R533.1 19 _ _ rfl; omega)
                              refine mv_locals (lv' := [(6, .int (i6_306 + 1)), (5, .int v74), (4, .int v83), (3, .int (20 + v74)), (0, .ref o0), (1, .int x1), (2, .int x2)]) (by intro q hq; simp only [List.mem_cons, List.not_mem_nil, or_false] at hq; rcases hq with rfl | rfl | rfl | rfl | rfl | rfl | rfl <;> rfl) ?_
                              have b569 : (i6_306 + 1).toInt = i6_306.toInt + 1 := mz_addn 1 1 (by decide) (by have := mz_lo i6_306; omega) (by have := mz_hi i6_306; omega)
                              exact (ih306 (i6_306 + 1) T525 M523 n524 I527 t535 (by have := R533.1 15 _ _ rfl; have := R533.1 16 _ _ rfl; have := R533.1 19 _ _ rfl; first | omega | decide | exact fun h9 => absurd (by decide) h9) (by have := R533.1 15 _ _ rfl; have := R533.1 16 _ _ rfl; have := R533.1 19 _ _ rfl; first | omega | decide | exact fun h9 => absurd (by decide) h9) (by have := R533.1 15 _ _ rfl; have := R533.1 16 _ _ rfl; have := R533.1 19 _ _ rfl; first | omega | decide | exact fun h9 => absurd (by decide) h9) (by have := R533.1 15 _ _ rfl; have := R533.1 16 _ _ rfl; have := R533.1 19 _ _ rfl; first | omega | decide | exact fun h9 => absurd (by decide) h9) (by have := R533.1 15 _ _ rfl; have := R533.1 16 _ _ rfl; have := R533.1 19 _ _ rfl; first | omega | decide | exact fun h9 => absurd (by decide) h9) (by have := R533.1 15 _ _ rfl; have := R533.1 16 _ _ rfl; have := R533.1 19 _ _ rfl; first | omega | decide | exact fun h9 => absurd (by decide) h9) (by have := R533.1 15 _ _ rfl; have := R533.1 16 _ _ rfl; have := R533.1 19 _ _ rfl; first | omega | decide | exact fun h9 => absurd (by decide) h9) (by rw [show (i6_306 + 1 : Int32).toInt.toNat = i6_306.toInt.toNat + 1 from by omega]; have := R533.1 15 _ _ rfl; have := R533.1 16 _ _ rfl; have := R533.1 19 _ _ rfl; omega) (by have := R533.1 15 _ _ rfl; have := R533.1 16 _ _ rfl; have := R533.1 19 _ _ rfl; first | omega | decide | exact fun h9 => absurd (by decide) h9) (by have := R533.1 15 _ _ rfl; have := R533.1 16 _ _ rfl; have := R533.1 19 _ _ rfl; first | omega | decide | exact fun h9 => absurd (by decide) h9) (by have := R533.1 15 _ _ rfl; have := R533.1 16 _ _ rfl; have := R533.1 19 _ _ rfl; first | omega | decide | exact fun h9 => absurd (by decide) h9) R533 K552 K553 K554 K555 (by have := R533.1 15 _ _ rfl; have := R533.1 16 _ _ rfl; have := R533.1 19 _ _ rfl; omega))
                        · refine mv_aload_n d_TrustDeskModel_fund_187 rfl rfl ?_
                          obtain ⟨a571, q570, t_a571⟩ := tm_atR I_306 h_q0_306 (k := 36) rfl
                          refine tr_getK q570 d_TrustDeskModel_fund_188 f_TrustDeskModel_76_13 ?_
                          refine mv_iload d_TrustDeskModel_fund_191 rfl ?_
                          refine mv_dup2_11 d_TrustDeskModel_fund_193 rfl rfl ?_
                          refine tr_ialdR (o := o0) (k := 36) I_306 q570 t_a571 (by decide) d_TrustDeskModel_fund_194 (vp_in_iff.mpr (by have := kKR_306.1 15 _ _ rfl; have := kKR_306.1 16 _ _ rfl; have := kKR_306.1 19 _ _ rfl; omega)) (fun v572 e573 => ?_)
                          refine mv_aload_n d_TrustDeskModel_fund_195 rfl rfl ?_
                          obtain ⟨a575, q574, t_a575⟩ := tm_atR I_306 h_q0_306 (k := 8) rfl
                          refine tr_getK q574 d_TrustDeskModel_fund_196 f_TrustDeskModel_29_13 ?_
                          refine mv_iload d_TrustDeskModel_fund_199 rfl ?_
                          have b576 : (20 + v74 : Int32).toInt = (20 + v74.toInt) := mz_add2 (by decide) rfl (by have := kKR_306.1 15 _ _ rfl; have := kKR_306.1 16 _ _ rfl; have := kKR_306.1 19 _ _ rfl; omega) (by have := kKR_306.1 15 _ _ rfl; have := kKR_306.1 16 _ _ rfl; have := kKR_306.1 19 _ _ rfl; omega)
                          have b577 : (20 * (20 + v74) : Int32).toInt = (20 * (20 + v74.toInt)) := mz_mul2 (by decide) b576 (by have := kKR_306.1 15 _ _ rfl; have := kKR_306.1 16 _ _ rfl; have := kKR_306.1 19 _ _ rfl; omega) (by have := kKR_306.1 15 _ _ rfl; have := kKR_306.1 16 _ _ rfl; have := kKR_306.1 19 _ _ rfl; omega)
                          have b578 : ((20 * (20 + v74)) + i6_306 : Int32).toInt = ((20 * (20 + v74.toInt)) + i6_306.toInt) := mz_add2 b577 rfl (by have := kKR_306.1 15 _ _ rfl; have := kKR_306.1 16 _ _ rfl; have := kKR_306.1 19 _ _ rfl; omega) (by have := kKR_306.1 15 _ _ rfl; have := kKR_306.1 16 _ _ rfl; have := kKR_306.1 19 _ _ rfl; omega)
                          refine tr_ialdR (o := o0) (k := 8) I_306 q574 t_a575 (by decide) d_TrustDeskModel_fund_201 (vp_in_iff.mpr (by have := kKR_306.1 15 _ _ rfl; have := kKR_306.1 16 _ _ rfl; have := kKR_306.1 19 _ _ rfl; omega)) (fun v579 e580 => ?_)
                          have := kKR_306.a (k := 8) rfl (((20 * (20 + v74)) + i6_306) : Int32).toNatClampNeg
                          refine mv_ior d_TrustDeskModel_fund_202 ?_
                          refine tr_iastR (k := 36) I_306 kKR_306 (I_306.up h_o0) q570 t_a571 (by decide) (by decide) (fun lo hi h => by cases h) (Or.inl (by decide)) d_TrustDeskModel_fund_203 (vp_in_iff.mpr (by have := kKR_306.1 15 _ _ rfl; have := kKR_306.1 16 _ _ rfl; have := kKR_306.1 19 _ _ rfl; omega)) (fun M581 I582 K583 R584 E585 A586 V587 => ?_)
                          have z588 := (V587 15)
                          have z589 := (V587 16)
                          have z590 := (V587 17)
                          have z591 := (V587 19)
                          have z592 := (V587 22)
                          have z593 := (V587 24)
                          have z594 := (V587 27)
                          have z595 := (V587 32)
                          have z596 := (V587 49)
                          have z597 := (V587 14)
                          have z598 := (V587 21)
                          have z599 := (A586 5 (by decide) rfl 44)
                          have z600 := (A586 6 (by decide) rfl 44)
                          have z601 := (A586 6 (by decide) rfl ((20 + v74).toNatClampNeg))
                          have z602 := (A586 43 (by decide) rfl v74.toNatClampNeg)
                          have z603 := (A586 37 (by decide) rfl v74.toNatClampNeg)
                          have z604 := (A586 7 (by decide) rfl (((20 * (20 + v74)) + i6_306).toNatClampNeg)).trans z380
                          have K605 : rP M581 o0 := kKP_306.same (sA_a A586 (by decide +kernel)) (sF_a V587)
                          have K606 : rB M581 o0 v74.toNatClampNeg := kKB_306.same (sA_a A586 (by decide +kernel)) (sF_a V587)
                          have K607 : sA [7] M76 M581 o0 := kKY_306.trans (sA_a A586 (by decide +kernel))
                          have K608 : rC M581 o0 ((20 + v74).toNatClampNeg) := kKC_306.same (sA_a A586 (by decide +kernel)) (sF_a V587)
                          clear z380
                          refine mv_aload_n d_TrustDeskModel_fund_204 rfl rfl ?_
                          refine tr_getK (k := 7) (K583 _ 13 7 _ q373) d_TrustDeskModel_fund_205 f_TrustDeskModel_26_13 ?_
                          refine mv_iload d_TrustDeskModel_fund_208 rfl ?_
                          have b609 : (20 + v74 : Int32).toInt = (20 + v74.toInt) := mz_add2 (by decide) rfl (by have := R584.1 15 _ _ rfl; have := R584.1 16 _ _ rfl; have := R584.1 19 _ _ rfl; omega) (by have := R584.1 15 _ _ rfl; have := R584.1 16 _ _ rfl; have := R584.1 19 _ _ rfl; omega)
                          have b610 : (20 * (20 + v74) : Int32).toInt = (20 * (20 + v74.toInt)) := mz_mul2 (by decide) b609 (by have := R584.1 15 _ _ rfl; have := R584.1 16 _ _ rfl; have := R584.1 19 _ _ rfl; omega) (by have := R584.1 15 _ _ rfl; have := R584.1 16 _ _ rfl; have := R584.1 19 _ _ rfl; omega)
                          have b611 : ((20 * (20 + v74)) + i6_306 : Int32).toInt = ((20 * (20 + v74.toInt)) + i6_306.toInt) := mz_add2 b610 rfl (by have := R584.1 15 _ _ rfl; have := R584.1 16 _ _ rfl; have := R584.1 19 _ _ rfl; omega) (by have := R584.1 15 _ _ rfl; have := R584.1 16 _ _ rfl; have := R584.1 19 _ _ rfl; omega)
                          refine tr_ialdR (o := o0) (k := 7) I582 (K583 _ 13 7 _ q373) t_a374 (by decide) d_TrustDeskModel_fund_210 (vp_in_iff.mpr (by have := R584.1 15 _ _ rfl; have := R584.1 16 _ _ rfl; have := R584.1 19 _ _ rfl; omega)) (fun v612 e613 => ?_)
                          have : v612.toInt = _ := Eq.trans e613 z604
                          have h614 : ((20 * (20 + v74)) + i6_306).toNatClampNeg = 20 * (20 + v74).toNatClampNeg + i6_306.toInt.toNat := by have := mz_nat9 (i := ((20 * (20 + v74)) + i6_306)) (by have := R584.1 15 _ _ rfl; have := R584.1 16 _ _ rfl; have := R584.1 19 _ _ rfl; omega); have := mz_nat9 (i := (20 + v74)) (by have := R584.1 15 _ _ rfl; have := R584.1 16 _ _ rfl; have := R584.1 19 _ _ rfl; omega); have := R584.1 15 _ _ rfl; have := R584.1 16 _ _ rfl; have := R584.1 19 _ _ rfl; omega
                          have : v612.toInt = ra M76 o0 7 (20 * (20 + v74).toNatClampNeg + i6_306.toInt.toNat) := by have e9 := K607 7 rfl; rw [← e9, e613, h614]
                          refine mv_bipush (v := 9) d_TrustDeskModel_fund_211 (by decide) ?_
                          have := mz_hi v612
                          refine mv_icmp_neZ (tgt := 244) (a := v612.toInt) (b := 9) d_TrustDeskModel_fund_213 (by decide) rfl (by decide) (fun b615 => ?_) (fun b615 => absurd b615 (by omega))
                          refine mv_aload_n d_TrustDeskModel_fund_244 rfl rfl ?_
                          refine tr_getK (k := 7) (K583 _ 13 7 _ q373) d_TrustDeskModel_fund_245 f_TrustDeskModel_26_13 ?_
                          refine mv_iload d_TrustDeskModel_fund_248 rfl ?_
                          have b616 : (20 + v74 : Int32).toInt = (20 + v74.toInt) := mz_add2 (by decide) rfl (by have := R584.1 15 _ _ rfl; have := R584.1 16 _ _ rfl; have := R584.1 19 _ _ rfl; omega) (by have := R584.1 15 _ _ rfl; have := R584.1 16 _ _ rfl; have := R584.1 19 _ _ rfl; omega)
                          have b617 : (20 * (20 + v74) : Int32).toInt = (20 * (20 + v74.toInt)) := mz_mul2 (by decide) b616 (by have := R584.1 15 _ _ rfl; have := R584.1 16 _ _ rfl; have := R584.1 19 _ _ rfl; omega) (by have := R584.1 15 _ _ rfl; have := R584.1 16 _ _ rfl; have := R584.1 19 _ _ rfl; omega)
                          have b618 : ((20 * (20 + v74)) + i6_306 : Int32).toInt = ((20 * (20 + v74.toInt)) + i6_306.toInt) := mz_add2 b617 rfl (by have := R584.1 15 _ _ rfl; have := R584.1 16 _ _ rfl; have := R584.1 19 _ _ rfl; omega) (by have := R584.1 15 _ _ rfl; have := R584.1 16 _ _ rfl; have := R584.1 19 _ _ rfl; omega)
                          refine tr_ialdR (o := o0) (k := 7) I582 (K583 _ 13 7 _ q373) t_a374 (by decide) d_TrustDeskModel_fund_250 (vp_in_iff.mpr (by have := R584.1 15 _ _ rfl; have := R584.1 16 _ _ rfl; have := R584.1 19 _ _ rfl; omega)) (fun v619 e620 => ?_)
                          have : v619.toInt = _ := Eq.trans e620 z604
                          have h621 : ((20 * (20 + v74)) + i6_306).toNatClampNeg = 20 * (20 + v74).toNatClampNeg + i6_306.toInt.toNat := by have := mz_nat9 (i := ((20 * (20 + v74)) + i6_306)) (by have := R584.1 15 _ _ rfl; have := R584.1 16 _ _ rfl; have := R584.1 19 _ _ rfl; omega); have := mz_nat9 (i := (20 + v74)) (by have := R584.1 15 _ _ rfl; have := R584.1 16 _ _ rfl; have := R584.1 19 _ _ rfl; omega); have := R584.1 15 _ _ rfl; have := R584.1 16 _ _ rfl; have := R584.1 19 _ _ rfl; omega
                          have : v619.toInt = ra M76 o0 7 (20 * (20 + v74).toNatClampNeg + i6_306.toInt.toNat) := by have e9 := K607 7 rfl; rw [← e9, e620, h621]
                          refine mv_bipush (v := 8) d_TrustDeskModel_fund_251 (by decide) ?_
                          have := mz_hi v619
                          refine mv_icmp_neZ (tgt := 268) (a := v619.toInt) (b := 8) d_TrustDeskModel_fund_253 (by decide) rfl (by decide) (fun b622 => ?_) (fun b622 => absurd b622 (by omega))
                          refine mv_iinc (v := (i6_306 + 1)) (lv' := [(6, .int (i6_306 + 1)), (7, .int ((20 * (20 + v74)) + i6_306)), (5, .int v74), (4, .int v83), (3, .int (20 + v74)), (0, .ref o0), (1, .int x1), (2, .int x2)]) d_TrustDeskModel_fund_268 rfl rfl (by decide) rfl ?_
                          refine mv_goto (tgt := 155) d_TrustDeskModel_fund_271 (by decide) ?_
                          have b623 : (i6_306 + 1 : Int32).toInt = (i6_306.toInt + 1) := mz_add2 rfl (by decide) (by have := R584.1 15 _ _ rfl; have := R584.1 16 _ _ rfl; have := R584.1 19 _ _ rfl; omega) (by have := R584.1 15 _ _ rfl; have := R584.1 16 _ _ rfl; have := R584.1 19 _ _ rfl; omega)
                          refine mv_locals (lv' := [(6, .int (i6_306 + 1)), (5, .int v74), (4, .int v83), (3, .int (20 + v74)), (0, .ref o0), (1, .int x1), (2, .int x2)]) (by intro q hq; simp only [List.mem_cons, List.not_mem_nil, or_false] at hq; rcases hq with rfl | rfl | rfl | rfl | rfl | rfl | rfl <;> rfl) ?_
                          have b624 : (i6_306 + 1).toInt = i6_306.toInt + 1 := mz_addn 1 1 (by decide) (by have := mz_lo i6_306; omega) (by have := mz_hi i6_306; omega)
                          exact (ih306 (i6_306 + 1) T_306 M581 n_306 I582 h_q0_306 (by have := R584.1 15 _ _ rfl; have := R584.1 16 _ _ rfl; have := R584.1 19 _ _ rfl; first | omega | decide | exact fun h9 => absurd (by decide) h9) (by have := R584.1 15 _ _ rfl; have := R584.1 16 _ _ rfl; have := R584.1 19 _ _ rfl; first | omega | decide | exact fun h9 => absurd (by decide) h9) (by have := R584.1 15 _ _ rfl; have := R584.1 16 _ _ rfl; have := R584.1 19 _ _ rfl; first | omega | decide | exact fun h9 => absurd (by decide) h9) (by have := R584.1 15 _ _ rfl; have := R584.1 16 _ _ rfl; have := R584.1 19 _ _ rfl; first | omega | decide | exact fun h9 => absurd (by decide) h9) (by have := R584.1 15 _ _ rfl; have := R584.1 16 _ _ rfl; have := R584.1 19 _ _ rfl; first | omega | decide | exact fun h9 => absurd (by decide) h9) (by have := R584.1 15 _ _ rfl; have := R584.1 16 _ _ rfl; have := R584.1 19 _ _ rfl; first | omega | decide | exact fun h9 => absurd (by decide) h9) (by have := R584.1 15 _ _ rfl; have := R584.1 16 _ _ rfl; have := R584.1 19 _ _ rfl; first | omega | decide | exact fun h9 => absurd (by decide) h9) (by rw [show (i6_306 + 1 : Int32).toInt.toNat = i6_306.toInt.toNat + 1 from by omega]; have := R584.1 15 _ _ rfl; have := R584.1 16 _ _ rfl; have := R584.1 19 _ _ rfl; omega) (by have := R584.1 15 _ _ rfl; have := R584.1 16 _ _ rfl; have := R584.1 19 _ _ rfl; first | omega | decide | exact fun h9 => absurd (by decide) h9) (by have := R584.1 15 _ _ rfl; have := R584.1 16 _ _ rfl; have := R584.1 19 _ _ rfl; first | omega | decide | exact fun h9 => absurd (by decide) h9) (by have := R584.1 15 _ _ rfl; have := R584.1 16 _ _ rfl; have := R584.1 19 _ _ rfl; first | omega | decide | exact fun h9 => absurd (by decide) h9) R584 K605 K606 K607 K608 (by have := R584.1 15 _ _ rfl; have := R584.1 16 _ _ rfl; have := R584.1 19 _ _ rfl; omega))
                  have : (0 : Int32).toInt = 0 := by decide
                  have K625 : rB M279 o0 v74.toNatClampNeg := K303.to
                  exact mv_less (Nat.zero_le _) (Nat.zero_le _) (L155_306 4294967296 0 T78 M279 n77 I280 t90 (by have := R282.1 15 _ _ rfl; have := R282.1 16 _ _ rfl; have := R282.1 19 _ _ rfl; first | omega | decide | exact fun h9 => absurd (by decide) h9) (by have := R282.1 15 _ _ rfl; have := R282.1 16 _ _ rfl; have := R282.1 19 _ _ rfl; first | omega | decide | exact fun h9 => absurd (by decide) h9) (by have := R282.1 15 _ _ rfl; have := R282.1 16 _ _ rfl; have := R282.1 19 _ _ rfl; first | omega | decide | exact fun h9 => absurd (by decide) h9) (by have := R282.1 15 _ _ rfl; have := R282.1 16 _ _ rfl; have := R282.1 19 _ _ rfl; first | omega | decide | exact fun h9 => absurd (by decide) h9) (by have := R282.1 15 _ _ rfl; have := R282.1 16 _ _ rfl; have := R282.1 19 _ _ rfl; first | omega | decide | exact fun h9 => absurd (by decide) h9) (by have := R282.1 15 _ _ rfl; have := R282.1 16 _ _ rfl; have := R282.1 19 _ _ rfl; first | omega | decide | exact fun h9 => absurd (by decide) h9) (by have := R282.1 15 _ _ rfl; have := R282.1 16 _ _ rfl; have := R282.1 19 _ _ rfl; first | omega | decide | exact fun h9 => absurd (by decide) h9) (by show _ ≤ kc _ _ _ 0; show _ ≤ (0 : Int); have := R282.1 15 _ _ rfl; have := R282.1 16 _ _ rfl; have := R282.1 19 _ _ rfl; omega) (by have := R282.1 15 _ _ rfl; have := R282.1 16 _ _ rfl; have := R282.1 19 _ _ rfl; first | omega | decide | exact fun h9 => absurd (by decide) h9) (by have := R282.1 15 _ _ rfl; have := R282.1 16 _ _ rfl; have := R282.1 19 _ _ rfl; first | omega | decide | exact fun h9 => absurd (by decide) h9) (by have := R282.1 15 _ _ rfl; have := R282.1 16 _ _ rfl; have := R282.1 19 _ _ rfl; first | omega | decide | exact fun h9 => absurd (by decide) h9) R282 K302 K625 K304 K305 (by show (2147483647 - (0 : Int) : Int) < _; decide))
                · have K626 : rC M76 o0 44 := K103.1 (by omega)
                  obtain ⟨g627, g628, g629⟩ := (Im.o g106).2 (by omega)
                  refine mv_iload d_TrustDeskModel_fund_86 rfl ?_
                  exact mv_iret d_TrustDeskModel_fund_88 rfl (by first | rfl | decide) ⟨_, I80, _, rfl, R84, K626, K101, K102, (by have := R84.1 15 _ _ rfl; have := R84.1 16 _ _ rfl; have := R84.1 19 _ _ rfl; omega), (Or.inr ⟨Im.o hG, by omega, Or.inr ⟨by omega, by omega, by omega, by omega⟩⟩)⟩
            have L45_630 : ∀ (k : Nat) (T_630 : tm_H) (M_630 : mj_M) (n_630 : Nat), tm_I tm_FT (tm_in w_TrustDeskModel_fund_x) x9 T0 M0 n0 T_630 M_630 n_630 → T_630 o0 = some (0, 13, 0) → (rv M_630 o0 19 = 0 → rv M_630 o0 22 = 0) → rv M_630 o0 27 = rv M0 o0 27 → rv M_630 o0 32 = rv M0 o0 32 → rv M_630 o0 49 = rv M0 o0 49 → ra M_630 o0 6 44 ≤ 12 → (rI M_630 o0) → (rC M_630 o0 44) → (rP M_630 o0) → (rB M_630 o0 12) → (rW M_630 o0) → (∃ (c1 : Nat) (N1 : List (Nat × Nat)) (s1 : p_S), pO M_630 o0 pb pn 10 s1 ∧ (s1.1 = 0 → ra M_630 o0 6 44 = (c1 : Int)) ∧ (s1.1 = 0 → pN M_630 o0 pn N1) ∧ p_lp pn (p_de1 pb pn 10) (c1, N1, s1) = p_dee pb pn) → 5 * (401 - rv M_630 o0 16) - rv M_630 o0 19 < (k : Int) → mj_V g l kY_TrustDeskModel_fund (d + 27) 45 [(0, .ref o0), (1, .int x1), (2, .int x2)] [] M_630 n_630 0 0 (tm_Q tm_FT (tm_in w_TrustDeskModel_fund_x) x9 T0 M0 n0 (fun r _ M => ∃ v : Int32, r = some (.int v) ∧ rI M o0 ∧ (rC M o0 44) ∧ (rP M o0) ∧ (rB M o0 12) ∧ (rv M0 o0 32 ≤ rv M o0 32) ∧ ((v.toInt = -1 ∧ ¬ (0 ≤ x1.toInt ∧ x1.toInt ≤ 999 ∧ 0 ≤ x2.toInt ∧ x2.toInt ≤ 99999 ∧ rv M0 o0 32 ≠ 12) ∧ rv M o0 14 = rv M0 o0 14 ∧ rv M o0 21 = rv M0 o0 21 ∧ rv M o0 32 = rv M0 o0 32) ∨ ((0 ≤ x1.toInt ∧ x1.toInt ≤ 999 ∧ 0 ≤ x2.toInt ∧ x2.toInt ≤ 99999 ∧ rv M0 o0 32 ≠ 12) ∧ rv M o0 14 = 0 ∧ (((p_dee pb pn).2.2.1 = 0 ∧ v.toInt = rv M0 o0 32 ∧ rv M o0 21 = -1 ∧ rv M o0 32 = rv M0 o0 32 + 1) ∨ ((p_dee pb pn).2.2.1 ≠ 0 ∧ v.toInt = -1 - (p_dee pb pn).2.2.1 ∧ rv M o0 21 = ((p_dee pb pn).2.2.2.1 : Int) ∧ rv M o0 32 = rv M0 o0 32)))))) := by
              intro k630
              induction k630 with
              | zero =>
                intro T_630 M_630 n_630 I_630 h_q0_630 iv0_630 iv1_630 iv2_630 iv3_630 iv4_630 kKR_630 kKC_630 kKP_630 kKB_630 kKW_630 kKT9_630 hk630
                have := kKR_630.1 15 _ _ rfl
                have := kKR_630.1 16 _ _ rfl
                have := kKR_630.1 19 _ _ rfl
                exfalso; omega
              | succ k630 ih630 =>
                intro T_630 M_630 n_630 I_630 h_q0_630 iv0_630 iv1_630 iv2_630 iv3_630 iv4_630 kKR_630 kKC_630 kKP_630 kKB_630 kKW_630 kKT9_630 hk630
                obtain ⟨c631, N636, s632, S633, h634, h637, e635⟩ := kKT9_630
                replace h637 := Im.i h637
                replace h634 := Im.i h634
                have := S633.w
                refine mv_aload_n d_TrustDeskModel_fund_45 rfl rfl ?_
                obtain ⟨_, b638, -⟩ := I_630.1 _ _ h_q0_630
                refine mv_callV (kc1 := 0) (ks1 := 0) (kc' := 0) (ks' := 0) (As := []) (st9 := [.ref o0]) d_TrustDeskModel_fund_46 lV_TrustDeskModel_230 b638 rfl (mj_enter (by decide) (Nat.le_of_ble_eq_true rfl) ?_) rfl (Nat.le_of_ble_eq_true rfl) (Nat.le_of_ble_eq_true rfl) (Nat.le_of_ble_eq_true rfl) (hst := rfl) (fun _ _ _ h => h)
                refine mv_aload_n d_TrustDeskModel_isWell_0 rfl rfl ?_
                obtain ⟨v640, q639⟩ := tm_atI I_630 h_q0_630 (k := 19) rfl
                refine tr_getK q639 d_TrustDeskModel_isWell_1 f_TrustDeskModel_224_13 ?_
                have := kKR_630.f (k := 19) q639 rfl
                have := tm_rv q639
                have := mz_hi v640
                refine mv_if_neZ (tgt := 11) (a := v640.toInt) d_TrustDeskModel_isWell_4 (by decide) rfl (fun b641 => ?_) (fun b641 => ?_)
                · refine mv_iconst (v := 0) d_TrustDeskModel_isWell_11 (by decide) ?_
                  refine mv_iret d_TrustDeskModel_isWell_12 rfl (by decide) ?_
                  refine mv_if_eq_t (tgt := 66) d_TrustDeskModel_fund_49 (by decide) (by decide) ?_
                  have e643 := (by exact e635.symm.trans (p_lp_stop (show (p_de1 pb pn 10) (c631, N636, s632) = (c631, N636, s632) from if_neg (fun h9 => by have h8 : s632.1 = 0 := h9.1; have h7 : p_ki pb pn s632.2.2 ≠ 0 := h9.2; omega))))
                  have T642 : ∃ (c1 : Nat) (N1 : List (Nat × Nat)) (s1 : p_S), pO M_630 o0 pb pn 10 s1 ∧ (s1.1 = 0 → ra M_630 o0 6 44 = (c1 : Int)) ∧ (s1.1 = 0 → pN M_630 o0 pn N1) ∧ (c1, N1, s1) = p_dee pb pn := ⟨c631, N636, s632, S633, (fun z9 => by have := (Im.o h634) (by omega); omega), (fun z9 => (Im.o h637) z9), e643.symm⟩
                  exact C66_65 T_630 M_630 n_630 I_630 h_q0_630 (fun w9 => by skip; omega) (by have := kKR_630.1 15 _ _ rfl; have := kKR_630.1 16 _ _ rfl; have := kKR_630.1 19 _ _ rfl; first | omega | decide | exact fun h9 => absurd (by decide) h9) (by have := kKR_630.1 15 _ _ rfl; have := kKR_630.1 16 _ _ rfl; have := kKR_630.1 19 _ _ rfl; first | omega | decide | exact fun h9 => absurd (by decide) h9) (by have := kKR_630.1 15 _ _ rfl; have := kKR_630.1 16 _ _ rfl; have := kKR_630.1 19 _ _ rfl; first | omega | decide | exact fun h9 => absurd (by decide) h9) (by have := kKR_630.1 15 _ _ rfl; have := kKR_630.1 16 _ _ rfl; have := kKR_630.1 19 _ _ rfl; first | omega | decide | exact fun h9 => absurd (by decide) h9) kKR_630 kKC_630 kKP_630 kKB_630 kKW_630 T642
                · refine mv_iconst (v := 1) d_TrustDeskModel_isWell_7 (by decide) ?_
                  refine mv_goto (tgt := 12) d_TrustDeskModel_isWell_8 (by decide) ?_
                  refine mv_iret d_TrustDeskModel_isWell_12 rfl (by decide) ?_
                  refine mv_if_eq_f (tgt := 66) d_TrustDeskModel_fund_49 (by decide) (by decide) ?_
                  refine mv_aload_n d_TrustDeskModel_fund_52 rfl rfl ?_
                  obtain ⟨v645, q644⟩ := tm_atI I_630 h_q0_630 (k := 17) rfl
                  refine tr_getK q644 d_TrustDeskModel_fund_53 f_TrustDeskModel_198_13 ?_
                  have := tm_rv q644
                  have := mz_hi v645
                  refine mv_if_eqZ (tgt := 66) (a := v645.toInt) d_TrustDeskModel_fund_56 (by decide) rfl (fun b646 => ?_) (fun b646 => ?_)
                  · have e648 := (by have := S633.s0 (by omega) (by omega); exact e635.symm.trans (p_lp_stop (show (p_de1 pb pn 10) (c631, N636, s632) = (c631, N636, s632) from if_neg (fun h9 => by have h8 : s632.1 = 0 := h9.1; have h7 : p_ki pb pn s632.2.2 ≠ 0 := h9.2; omega))))
                    have T647 : ∃ (c1 : Nat) (N1 : List (Nat × Nat)) (s1 : p_S), pO M_630 o0 pb pn 10 s1 ∧ (s1.1 = 0 → ra M_630 o0 6 44 = (c1 : Int)) ∧ (s1.1 = 0 → pN M_630 o0 pn N1) ∧ (c1, N1, s1) = p_dee pb pn := ⟨c631, N636, s632, S633, (fun z9 => by have := (Im.o h634) (by omega); omega), (fun z9 => (Im.o h637) z9), e648.symm⟩
                    exact C66_65 T_630 M_630 n_630 I_630 h_q0_630 (fun w9 => by skip; omega) (by have := kKR_630.1 15 _ _ rfl; have := kKR_630.1 16 _ _ rfl; have := kKR_630.1 19 _ _ rfl; first | omega | decide | exact fun h9 => absurd (by decide) h9) (by have := kKR_630.1 15 _ _ rfl; have := kKR_630.1 16 _ _ rfl; have := kKR_630.1 19 _ _ rfl; first | omega | decide | exact fun h9 => absurd (by decide) h9) (by have := kKR_630.1 15 _ _ rfl; have := kKR_630.1 16 _ _ rfl; have := kKR_630.1 19 _ _ rfl; first | omega | decide | exact fun h9 => absurd (by decide) h9) (by have := kKR_630.1 15 _ _ rfl; have := kKR_630.1 16 _ _ rfl; have := kKR_630.1 19 _ _ rfl; first | omega | decide | exact fun h9 => absurd (by decide) h9) kKR_630 kKC_630 kKP_630 kKB_630 kKW_630 T647
                  · refine mv_aload_n d_TrustDeskModel_fund_59 rfl rfl ?_
                    obtain ⟨_, b655, -⟩ := I_630.1 _ _ h_q0_630
                    refine mv_callV (kc' := 0) (ks' := 0) (As := []) (st9 := [.ref o0]) d_TrustDeskModel_fund_60 lV_TrustDeskModel_425 b655 rfl (tc_TrustDeskModel_readClause_x (d := d) (x9 := x9) (o0 := o0) h_q0_630 kKR_630 kKW_630 (by have := kKR_630.1 15 _ _ rfl; have := kKR_630.1 16 _ _ rfl; have := kKR_630.1 19 _ _ rfl; omega) (by have := kKR_630.1 15 _ _ rfl; have := kKR_630.1 16 _ _ rfl; have := kKR_630.1 19 _ _ rfl; omega) (by have := kKR_630.1 15 _ _ rfl; have := kKR_630.1 16 _ _ rfl; have := kKR_630.1 19 _ _ rfl; omega) (by have := kKR_630.1 15 _ _ rfl; have := kKR_630.1 16 _ _ rfl; have := kKR_630.1 19 _ _ rfl; omega) S633 (pc9 := c631) ((Im.o h634) (by omega)) ((Im.o h637) (by have := kKR_630.1 15 _ _ rfl; have := kKR_630.1 16 _ _ rfl; have := kKR_630.1 19 _ _ rfl; omega)) I_630.start) rfl (Nat.le_of_ble_eq_true rfl) (Nat.le_of_ble_eq_true rfl) (Nat.le_of_ble_eq_true rfl) (hst := rfl) (fun b649r M650 n651 b649 => ?_)
                    obtain ⟨T652, J653, rfl, R656, f657, f658, f659, f660, f661, f662, f663, f664, f665⟩ := b649
                    have I654 := I_630.call J653 (tm_sub (by decide)) (Or.inl rfl)
                    have t666 := J653.up h_q0_630
                    replace f660 := Im.i f660
                    replace f661 := Im.i f661
                    replace f664 := Im.i f664
                    replace f665 := Im.i f665
                    have z667 := (rv_c I_630 J653 (I_630.up h_o0) (k := 27) rfl)
                    have z668 := (rv_c I_630 J653 (I_630.up h_o0) (k := 32) rfl)
                    have z669 := (rv_c I_630 J653 (I_630.up h_o0) (k := 49) rfl)
                    have z670 := (rv_c I_630 J653 (I_630.up h_o0) (k := 14) rfl)
                    have z671 := (rv_c I_630 J653 (I_630.up h_o0) (k := 21) rfl)
                    have K672 : rC M650 o0 44 := kKC_630.rO kKR_630 f658 (sA_c I_630 J653 (I_630.up h_o0) (by decide)) (sF_c I_630 J653 (I_630.up h_o0) (by decide))
                    have K673 : rP M650 o0 := kKP_630.same (sA_c I_630 J653 (I_630.up h_o0) (by decide +kernel)) (sF_c I_630 J653 (I_630.up h_o0) (by decide +kernel))
                    have K674 : rB M650 o0 12 := kKB_630.same (sA_c I_630 J653 (I_630.up h_o0) (by decide +kernel)) (sF_c I_630 J653 (I_630.up h_o0) (by decide +kernel))
                    have K675 : rW M650 o0 := f657
                    obtain ⟨s676, e677⟩ : ∃ s9 : p_S, (p_cl pb pn 10 (c631, N636, s632)).2 = s9 := ⟨_, rfl⟩
                    rw [e677] at f663
                    have := f663.w
                    refine mv_goto (tgt := 45) d_TrustDeskModel_fund_63 (by decide) ?_
                    have T678 : ∃ (c1 : Nat) (N1 : List (Nat × Nat)) (s1 : p_S), pO M650 o0 pb pn 10 s1 ∧ (s1.1 = 0 → ra M650 o0 6 44 = (c1 : Int)) ∧ (s1.1 = 0 → pN M650 o0 pn N1) ∧ p_lp pn (p_de1 pb pn 10) (c1, N1, s1) = p_dee pb pn := ⟨c631 + 1, (p_cl pb pn 10 (c631, N636, s632)).1, s676, f663, (fun z9 => by have w9 : rv M650 o0 19 = 0 := (by omega); have u91 : rv M650 o0 19 = 0 := (by omega); have := f660.o u91; have := f664.o u91; have := f665.o u91; have := (Im.o f664) w9; omega), (fun z9 => (Im.o f665) (by omega)), (by have st : p_de1 pb pn 10 (c631, N636, s632) = (c631 + 1, (p_cl pb pn 10 (c631, N636, s632)).1, s676) := (by have := S633.n0 (by omega) (by omega); rw [show p_de1 pb pn 10 (c631, N636, s632) = (c631 + 1, p_cl pb pn 10 (c631, N636, s632)) from if_pos ⟨(by show s632.1 = 0; omega), (by show p_ki pb pn s632.2.2 ≠ 0; omega)⟩]; exact Prod.ext rfl (Prod.ext rfl e677)); rw [← st, p_P.go p_de1_P (c631, N636, s632)]; exact e635)⟩
                    exact (ih630 T652 M650 n651 I654 t666 (fun w9 => by have u91 : rv M650 o0 19 = 0 := (by omega); have := f660.o u91; have := f664.o u91; have := f665.o u91; omega) (by have := R656.1 15 _ _ rfl; have := R656.1 16 _ _ rfl; have := R656.1 19 _ _ rfl; first | omega | decide | exact fun h9 => absurd (by decide) h9) (by have := R656.1 15 _ _ rfl; have := R656.1 16 _ _ rfl; have := R656.1 19 _ _ rfl; first | omega | decide | exact fun h9 => absurd (by decide) h9) (by have := R656.1 15 _ _ rfl; have := R656.1 16 _ _ rfl; have := R656.1 19 _ _ rfl; first | omega | decide | exact fun h9 => absurd (by decide) h9) (by have := R656.1 15 _ _ rfl; have := R656.1 16 _ _ rfl; have := R656.1 19 _ _ rfl; first | omega | decide | exact fun h9 => absurd (by decide) h9) R656 K672 K673 K674 K675 T678 (by have := R656.1 15 _ _ rfl; have := R656.1 16 _ _ rfl; have := R656.1 19 _ _ rfl; exact Classical.byCases (fun w9 : rv M650 o0 19 = 0 => by have u91 : rv M650 o0 19 = 0 := (by omega); have := f660.o u91; have := f664.o u91; have := f665.o u91; omega) (fun w9 : ¬ rv M650 o0 19 = 0 => by omega)))
            have T679 : ∃ (c1 : Nat) (N1 : List (Nat × Nat)) (s1 : p_S), pO M36 o0 pb pn 10 s1 ∧ (s1.1 = 0 → ra M36 o0 6 44 = (c1 : Int)) ∧ (s1.1 = 0 → pN M36 o0 pn N1) ∧ p_lp pn (p_de1 pb pn 10) (c1, N1, s1) = p_dee pb pn := ⟨0, [], s61, f49, (fun _ => by have := f48; omega), (fun _ => pN.nil (by have := f46; omega)), (by rw [← e62]; rfl)⟩
            exact mv_less (Nat.zero_le _) (Nat.zero_le _) (L45_630 4294967296 T38 M36 n37 I40 t50 (fun w9 => by skip; omega) (by have := R42.1 15 _ _ rfl; have := R42.1 16 _ _ rfl; have := R42.1 19 _ _ rfl; first | omega | decide | exact fun h9 => absurd (by decide) h9) (by have := R42.1 15 _ _ rfl; have := R42.1 16 _ _ rfl; have := R42.1 19 _ _ rfl; first | omega | decide | exact fun h9 => absurd (by decide) h9) (by have := R42.1 15 _ _ rfl; have := R42.1 16 _ _ rfl; have := R42.1 19 _ _ rfl; first | omega | decide | exact fun h9 => absurd (by decide) h9) (by have := R42.1 15 _ _ rfl; have := R42.1 16 _ _ rfl; have := R42.1 19 _ _ rfl; first | omega | decide | exact fun h9 => absurd (by decide) h9) R42 K56 K57 K58 K60 T679 (by have := R42.1 15 _ _ rfl; have := R42.1 16 _ _ rfl; have := R42.1 19 _ _ rfl; omega))
          · refine mv_iconst (v := (-1)) d_TrustDeskModel_fund_38 (by decide) ?_
            exact mv_iret d_TrustDeskModel_fund_39 rfl (by first | rfl | decide) ⟨_, I5, _, rfl, R8, K24, K25, K26, (by have := R8.1 15 _ _ rfl; have := R8.1 16 _ _ rfl; have := R8.1 19 _ _ rfl; omega), (Or.inl ⟨by decide, by omega, z20, z21, z18⟩)⟩
