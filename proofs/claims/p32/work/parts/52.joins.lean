abbrev kY_TrustDeskModel_joins : mj_Y := (⟨"TrustDeskModel", "joins", "(II)V"⟩, prog_14_method_85_code, 11, (Option.none : Option Jvm.ClassFile.FieldType))
theorem d_TrustDeskModel_joins_0 : decode kY_TrustDeskModel_joins.2.1 0 = .ok (.aload_n 0, 1) := by decide +kernel
theorem d_TrustDeskModel_joins_1 : decode kY_TrustDeskModel_joins.2.1 1 = .ok (.iload_n 1, 1) := by decide +kernel
theorem d_TrustDeskModel_joins_2 : decode kY_TrustDeskModel_joins.2.1 2 = .ok (.invokevirtual 541, 3) := by decide +kernel
theorem lV_TrustDeskModel_541 : mj_lV "TrustDeskModel" 541 kY_TrustDeskModel_worth 1 := ⟨⟨(mj_in1 (List.mem_of_getElem? (i := 1985) (by decide +kernel)) rfl), (mj_in1 (List.mem_of_getElem? (i := 10) (by decide +kernel)) rfl), (mj_in1 (List.mem_of_getElem? (i := 1988) (by decide +kernel)) rfl), by decide, rfl, by decide⟩, (mj_in1 (List.mem_of_getElem? (i := 1987) (by decide +kernel)) rfl), (mj_in (List.mem_append_left _ (List.mem_of_getElem? (i := 136) (by decide +kernel))) rfl)⟩
theorem d_TrustDeskModel_joins_5 : decode kY_TrustDeskModel_joins.2.1 5 = .ok (.lstore_n 3, 1) := by decide +kernel
theorem d_TrustDeskModel_joins_6 : decode kY_TrustDeskModel_joins.2.1 6 = .ok (.aload_n 0, 1) := by decide +kernel
theorem d_TrustDeskModel_joins_7 : decode kY_TrustDeskModel_joins.2.1 7 = .ok (.iload_n 2, 1) := by decide +kernel
theorem d_TrustDeskModel_joins_8 : decode kY_TrustDeskModel_joins.2.1 8 = .ok (.invokevirtual 541, 3) := by decide +kernel
theorem d_TrustDeskModel_joins_11 : decode kY_TrustDeskModel_joins.2.1 11 = .ok (.lstore 5, 2) := by decide +kernel
theorem d_TrustDeskModel_joins_13 : decode kY_TrustDeskModel_joins.2.1 13 = .ok (.lload_n 3, 1) := by decide +kernel
theorem d_TrustDeskModel_joins_14 : decode kY_TrustDeskModel_joins.2.1 14 = .ok (.lload 5, 2) := by decide +kernel
theorem d_TrustDeskModel_joins_16 : decode kY_TrustDeskModel_joins.2.1 16 = .ok (.ladd, 1) := by decide +kernel
theorem d_TrustDeskModel_joins_17 : decode kY_TrustDeskModel_joins.2.1 17 = .ok (.lconst 0, 1) := by decide +kernel
theorem d_TrustDeskModel_joins_18 : decode kY_TrustDeskModel_joins.2.1 18 = .ok (.lcmp, 1) := by decide +kernel
theorem d_TrustDeskModel_joins_19 : decode kY_TrustDeskModel_joins.2.1 19 = .ok (.ifCond .ne 8, 3) := by decide +kernel
theorem d_TrustDeskModel_joins_27 : decode kY_TrustDeskModel_joins.2.1 27 = .ok (.ldc_w 432, 3) := by decide +kernel
theorem d_TrustDeskModel_joins_30 : decode kY_TrustDeskModel_joins.2.1 30 = .ok (.istore 7, 2) := by decide +kernel
theorem d_TrustDeskModel_joins_32 : decode kY_TrustDeskModel_joins.2.1 32 = .ok (.iconst 0, 1) := by decide +kernel
theorem d_TrustDeskModel_joins_33 : decode kY_TrustDeskModel_joins.2.1 33 = .ok (.istore 8, 2) := by decide +kernel
theorem d_TrustDeskModel_joins_35 : decode kY_TrustDeskModel_joins.2.1 35 = .ok (.iload 8, 2) := by decide +kernel
theorem d_TrustDeskModel_joins_37 : decode kY_TrustDeskModel_joins.2.1 37 = .ok (.bipush 12, 2) := by decide +kernel
theorem d_TrustDeskModel_joins_39 : decode kY_TrustDeskModel_joins.2.1 39 = .ok (.if_icmp .ge 76, 3) := by decide +kernel
theorem d_TrustDeskModel_joins_115 : decode kY_TrustDeskModel_joins.2.1 115 = .ok (.iconst 0, 1) := by decide +kernel
theorem d_TrustDeskModel_joins_116 : decode kY_TrustDeskModel_joins.2.1 116 = .ok (.istore 8, 2) := by decide +kernel
theorem d_TrustDeskModel_joins_118 : decode kY_TrustDeskModel_joins.2.1 118 = .ok (.aload_n 0, 1) := by decide +kernel
theorem d_TrustDeskModel_joins_119 : decode kY_TrustDeskModel_joins.2.1 119 = .ok (.getfield 92, 3) := by decide +kernel
theorem d_TrustDeskModel_joins_122 : decode kY_TrustDeskModel_joins.2.1 122 = .ok (.bipush 12, 2) := by decide +kernel
theorem d_TrustDeskModel_joins_124 : decode kY_TrustDeskModel_joins.2.1 124 = .ok (.iload_n 2, 1) := by decide +kernel
theorem d_TrustDeskModel_joins_125 : decode kY_TrustDeskModel_joins.2.1 125 = .ok (.imul, 1) := by decide +kernel
theorem d_TrustDeskModel_joins_126 : decode kY_TrustDeskModel_joins.2.1 126 = .ok (.iload 8, 2) := by decide +kernel
theorem d_TrustDeskModel_joins_128 : decode kY_TrustDeskModel_joins.2.1 128 = .ok (.iadd, 1) := by decide +kernel
theorem d_TrustDeskModel_joins_129 : decode kY_TrustDeskModel_joins.2.1 129 = .ok (.iaload, 1) := by decide +kernel
theorem d_TrustDeskModel_joins_130 : decode kY_TrustDeskModel_joins.2.1 130 = .ok (.ifCond .ne 9, 3) := by decide +kernel
theorem d_TrustDeskModel_joins_139 : decode kY_TrustDeskModel_joins.2.1 139 = .ok (.aload_n 0, 1) := by decide +kernel
theorem d_TrustDeskModel_joins_140 : decode kY_TrustDeskModel_joins.2.1 140 = .ok (.getfield 92, 3) := by decide +kernel
theorem d_TrustDeskModel_joins_143 : decode kY_TrustDeskModel_joins.2.1 143 = .ok (.bipush 12, 2) := by decide +kernel
theorem d_TrustDeskModel_joins_145 : decode kY_TrustDeskModel_joins.2.1 145 = .ok (.iload_n 2, 1) := by decide +kernel
theorem d_TrustDeskModel_joins_146 : decode kY_TrustDeskModel_joins.2.1 146 = .ok (.imul, 1) := by decide +kernel
theorem d_TrustDeskModel_joins_147 : decode kY_TrustDeskModel_joins.2.1 147 = .ok (.iload 8, 2) := by decide +kernel
theorem d_TrustDeskModel_joins_149 : decode kY_TrustDeskModel_joins.2.1 149 = .ok (.iadd, 1) := by decide +kernel
theorem d_TrustDeskModel_joins_150 : decode kY_TrustDeskModel_joins.2.1 150 = .ok (.dup2, 1) := by decide +kernel
theorem d_TrustDeskModel_joins_151 : decode kY_TrustDeskModel_joins.2.1 151 = .ok (.iaload, 1) := by decide +kernel
theorem d_TrustDeskModel_joins_152 : decode kY_TrustDeskModel_joins.2.1 152 = .ok (.iload 7, 2) := by decide +kernel
theorem d_TrustDeskModel_joins_154 : decode kY_TrustDeskModel_joins.2.1 154 = .ok (.iadd, 1) := by decide +kernel
theorem d_TrustDeskModel_joins_155 : decode kY_TrustDeskModel_joins.2.1 155 = .ok (.iastore, 1) := by decide +kernel
theorem d_TrustDeskModel_joins_156 : decode kY_TrustDeskModel_joins.2.1 156 = .ok (.aload_n 0, 1) := by decide +kernel
theorem d_TrustDeskModel_joins_157 : decode kY_TrustDeskModel_joins.2.1 157 = .ok (.iload_n 2, 1) := by decide +kernel
theorem d_TrustDeskModel_joins_158 : decode kY_TrustDeskModel_joins.2.1 158 = .ok (.aload_n 0, 1) := by decide +kernel
theorem d_TrustDeskModel_joins_159 : decode kY_TrustDeskModel_joins.2.1 159 = .ok (.getfield 72, 3) := by decide +kernel
theorem d_TrustDeskModel_joins_162 : decode kY_TrustDeskModel_joins.2.1 162 = .ok (.iload_n 1, 1) := by decide +kernel
theorem d_TrustDeskModel_joins_163 : decode kY_TrustDeskModel_joins.2.1 163 = .ok (.laload, 1) := by decide +kernel
theorem d_TrustDeskModel_joins_164 : decode kY_TrustDeskModel_joins.2.1 164 = .ok (.invokevirtual 479, 3) := by decide +kernel
theorem d_TrustDeskModel_joins_167 : decode kY_TrustDeskModel_joins.2.1 167 = .ok (.aload_n 0, 1) := by decide +kernel
theorem d_TrustDeskModel_joins_168 : decode kY_TrustDeskModel_joins.2.1 168 = .ok (.getfield 66, 3) := by decide +kernel
theorem d_TrustDeskModel_joins_171 : decode kY_TrustDeskModel_joins.2.1 171 = .ok (.iload_n 2, 1) := by decide +kernel
theorem d_TrustDeskModel_joins_172 : decode kY_TrustDeskModel_joins.2.1 172 = .ok (.sipush 999, 3) := by decide +kernel
theorem d_TrustDeskModel_joins_175 : decode kY_TrustDeskModel_joins.2.1 175 = .ok (.aload_n 0, 1) := by decide +kernel
theorem d_TrustDeskModel_joins_176 : decode kY_TrustDeskModel_joins.2.1 176 = .ok (.getfield 66, 3) := by decide +kernel
theorem d_TrustDeskModel_joins_179 : decode kY_TrustDeskModel_joins.2.1 179 = .ok (.iload_n 2, 1) := by decide +kernel
theorem d_TrustDeskModel_joins_180 : decode kY_TrustDeskModel_joins.2.1 180 = .ok (.iaload, 1) := by decide +kernel
theorem d_TrustDeskModel_joins_181 : decode kY_TrustDeskModel_joins.2.1 181 = .ok (.aload_n 0, 1) := by decide +kernel
theorem d_TrustDeskModel_joins_182 : decode kY_TrustDeskModel_joins.2.1 182 = .ok (.getfield 66, 3) := by decide +kernel
theorem d_TrustDeskModel_joins_185 : decode kY_TrustDeskModel_joins.2.1 185 = .ok (.iload_n 1, 1) := by decide +kernel
theorem d_TrustDeskModel_joins_186 : decode kY_TrustDeskModel_joins.2.1 186 = .ok (.iaload, 1) := by decide +kernel
theorem d_TrustDeskModel_joins_187 : decode kY_TrustDeskModel_joins.2.1 187 = .ok (.iadd, 1) := by decide +kernel
theorem d_TrustDeskModel_joins_188 : decode kY_TrustDeskModel_joins.2.1 188 = .ok (.invokestatic 545, 3) := by decide +kernel
theorem d_TrustDeskModel_joins_191 : decode kY_TrustDeskModel_joins.2.1 191 = .ok (.iastore, 1) := by decide +kernel
theorem d_TrustDeskModel_joins_192 : decode kY_TrustDeskModel_joins.2.1 192 = .ok (.aload_n 0, 1) := by decide +kernel
theorem d_TrustDeskModel_joins_193 : decode kY_TrustDeskModel_joins.2.1 193 = .ok (.getfield 69, 3) := by decide +kernel
theorem d_TrustDeskModel_joins_196 : decode kY_TrustDeskModel_joins.2.1 196 = .ok (.iload_n 2, 1) := by decide +kernel
theorem d_TrustDeskModel_joins_197 : decode kY_TrustDeskModel_joins.2.1 197 = .ok (.ldc_w 547, 3) := by decide +kernel
theorem k_TrustDeskModel_547 : Cond.constant "TrustDeskModel" 547 99999 ∈ mj_T := (mj_in1 (List.mem_of_getElem? (i := 1993) (by decide +kernel)) rfl)
theorem d_TrustDeskModel_joins_200 : decode kY_TrustDeskModel_joins.2.1 200 = .ok (.aload_n 0, 1) := by decide +kernel
theorem d_TrustDeskModel_joins_201 : decode kY_TrustDeskModel_joins.2.1 201 = .ok (.getfield 69, 3) := by decide +kernel
theorem d_TrustDeskModel_joins_204 : decode kY_TrustDeskModel_joins.2.1 204 = .ok (.iload_n 2, 1) := by decide +kernel
theorem d_TrustDeskModel_joins_205 : decode kY_TrustDeskModel_joins.2.1 205 = .ok (.iaload, 1) := by decide +kernel
theorem d_TrustDeskModel_joins_206 : decode kY_TrustDeskModel_joins.2.1 206 = .ok (.aload_n 0, 1) := by decide +kernel
theorem d_TrustDeskModel_joins_207 : decode kY_TrustDeskModel_joins.2.1 207 = .ok (.getfield 69, 3) := by decide +kernel
theorem d_TrustDeskModel_joins_210 : decode kY_TrustDeskModel_joins.2.1 210 = .ok (.iload_n 1, 1) := by decide +kernel
theorem d_TrustDeskModel_joins_211 : decode kY_TrustDeskModel_joins.2.1 211 = .ok (.iaload, 1) := by decide +kernel
theorem d_TrustDeskModel_joins_212 : decode kY_TrustDeskModel_joins.2.1 212 = .ok (.iadd, 1) := by decide +kernel
theorem d_TrustDeskModel_joins_213 : decode kY_TrustDeskModel_joins.2.1 213 = .ok (.invokestatic 545, 3) := by decide +kernel
theorem d_TrustDeskModel_joins_216 : decode kY_TrustDeskModel_joins.2.1 216 = .ok (.iastore, 1) := by decide +kernel
theorem d_TrustDeskModel_joins_217 : decode kY_TrustDeskModel_joins.2.1 217 = .ok (.aload_n 0, 1) := by decide +kernel
theorem d_TrustDeskModel_joins_218 : decode kY_TrustDeskModel_joins.2.1 218 = .ok (.getfield 76, 3) := by decide +kernel
theorem d_TrustDeskModel_joins_221 : decode kY_TrustDeskModel_joins.2.1 221 = .ok (.iload_n 2, 1) := by decide +kernel
theorem d_TrustDeskModel_joins_222 : decode kY_TrustDeskModel_joins.2.1 222 = .ok (.dup2, 1) := by decide +kernel
theorem d_TrustDeskModel_joins_223 : decode kY_TrustDeskModel_joins.2.1 223 = .ok (.iaload, 1) := by decide +kernel
theorem d_TrustDeskModel_joins_224 : decode kY_TrustDeskModel_joins.2.1 224 = .ok (.aload_n 0, 1) := by decide +kernel
theorem d_TrustDeskModel_joins_225 : decode kY_TrustDeskModel_joins.2.1 225 = .ok (.getfield 76, 3) := by decide +kernel
theorem d_TrustDeskModel_joins_228 : decode kY_TrustDeskModel_joins.2.1 228 = .ok (.iload_n 1, 1) := by decide +kernel
theorem d_TrustDeskModel_joins_229 : decode kY_TrustDeskModel_joins.2.1 229 = .ok (.iaload, 1) := by decide +kernel
theorem d_TrustDeskModel_joins_230 : decode kY_TrustDeskModel_joins.2.1 230 = .ok (.iand, 1) := by decide +kernel
theorem d_TrustDeskModel_joins_231 : decode kY_TrustDeskModel_joins.2.1 231 = .ok (.iastore, 1) := by decide +kernel
theorem d_TrustDeskModel_joins_232 : decode kY_TrustDeskModel_joins.2.1 232 = .ok (.iconst 0, 1) := by decide +kernel
theorem d_TrustDeskModel_joins_233 : decode kY_TrustDeskModel_joins.2.1 233 = .ok (.istore 9, 2) := by decide +kernel
theorem d_TrustDeskModel_joins_235 : decode kY_TrustDeskModel_joins.2.1 235 = .ok (.iload 9, 2) := by decide +kernel
theorem d_TrustDeskModel_joins_237 : decode kY_TrustDeskModel_joins.2.1 237 = .ok (.aload_n 0, 1) := by decide +kernel
theorem d_TrustDeskModel_joins_238 : decode kY_TrustDeskModel_joins.2.1 238 = .ok (.getfield 98, 3) := by decide +kernel
theorem d_TrustDeskModel_joins_241 : decode kY_TrustDeskModel_joins.2.1 241 = .ok (.iload_n 1, 1) := by decide +kernel
theorem d_TrustDeskModel_joins_242 : decode kY_TrustDeskModel_joins.2.1 242 = .ok (.iaload, 1) := by decide +kernel
theorem d_TrustDeskModel_joins_243 : decode kY_TrustDeskModel_joins.2.1 243 = .ok (.if_icmp .ge 77, 3) := by decide +kernel
theorem d_TrustDeskModel_joins_320 : decode kY_TrustDeskModel_joins.2.1 320 = .ok (.aload_n 0, 1) := by decide +kernel
theorem d_TrustDeskModel_joins_321 : decode kY_TrustDeskModel_joins.2.1 321 = .ok (.getfield 72, 3) := by decide +kernel
theorem d_TrustDeskModel_joins_324 : decode kY_TrustDeskModel_joins.2.1 324 = .ok (.iload_n 1, 1) := by decide +kernel
theorem d_TrustDeskModel_joins_325 : decode kY_TrustDeskModel_joins.2.1 325 = .ok (.lconst 0, 1) := by decide +kernel
theorem d_TrustDeskModel_joins_326 : decode kY_TrustDeskModel_joins.2.1 326 = .ok (.lastore, 1) := by decide +kernel
theorem d_TrustDeskModel_joins_327 : decode kY_TrustDeskModel_joins.2.1 327 = .ok (.aload_n 0, 1) := by decide +kernel
theorem d_TrustDeskModel_joins_328 : decode kY_TrustDeskModel_joins.2.1 328 = .ok (.getfield 66, 3) := by decide +kernel
theorem d_TrustDeskModel_joins_331 : decode kY_TrustDeskModel_joins.2.1 331 = .ok (.iload_n 1, 1) := by decide +kernel
theorem d_TrustDeskModel_joins_332 : decode kY_TrustDeskModel_joins.2.1 332 = .ok (.iconst 0, 1) := by decide +kernel
theorem d_TrustDeskModel_joins_333 : decode kY_TrustDeskModel_joins.2.1 333 = .ok (.iastore, 1) := by decide +kernel
theorem d_TrustDeskModel_joins_334 : decode kY_TrustDeskModel_joins.2.1 334 = .ok (.aload_n 0, 1) := by decide +kernel
theorem d_TrustDeskModel_joins_335 : decode kY_TrustDeskModel_joins.2.1 335 = .ok (.getfield 69, 3) := by decide +kernel
theorem d_TrustDeskModel_joins_338 : decode kY_TrustDeskModel_joins.2.1 338 = .ok (.iload_n 1, 1) := by decide +kernel
theorem d_TrustDeskModel_joins_339 : decode kY_TrustDeskModel_joins.2.1 339 = .ok (.iconst 0, 1) := by decide +kernel
theorem d_TrustDeskModel_joins_340 : decode kY_TrustDeskModel_joins.2.1 340 = .ok (.iastore, 1) := by decide +kernel
theorem d_TrustDeskModel_joins_341 : decode kY_TrustDeskModel_joins.2.1 341 = .ok (.aload_n 0, 1) := by decide +kernel
theorem d_TrustDeskModel_joins_342 : decode kY_TrustDeskModel_joins.2.1 342 = .ok (.getfield 79, 3) := by decide +kernel
theorem d_TrustDeskModel_joins_345 : decode kY_TrustDeskModel_joins.2.1 345 = .ok (.iload_n 1, 1) := by decide +kernel
theorem d_TrustDeskModel_joins_346 : decode kY_TrustDeskModel_joins.2.1 346 = .ok (.iload_n 2, 1) := by decide +kernel
theorem d_TrustDeskModel_joins_347 : decode kY_TrustDeskModel_joins.2.1 347 = .ok (.iastore, 1) := by decide +kernel
theorem d_TrustDeskModel_joins_348 : decode kY_TrustDeskModel_joins.2.1 348 = .ok (.iconst 0, 1) := by decide +kernel
theorem d_TrustDeskModel_joins_349 : decode kY_TrustDeskModel_joins.2.1 349 = .ok (.istore 9, 2) := by decide +kernel
theorem d_TrustDeskModel_joins_351 : decode kY_TrustDeskModel_joins.2.1 351 = .ok (.iload 9, 2) := by decide +kernel
theorem d_TrustDeskModel_joins_353 : decode kY_TrustDeskModel_joins.2.1 353 = .ok (.bipush 100, 2) := by decide +kernel
theorem d_TrustDeskModel_joins_355 : decode kY_TrustDeskModel_joins.2.1 355 = .ok (.if_icmp .ge 22, 3) := by decide +kernel
theorem d_TrustDeskModel_joins_377 : decode kY_TrustDeskModel_joins.2.1 377 = .ok (.return_, 1) := by decide +kernel
theorem d_TrustDeskModel_joins_358 : decode kY_TrustDeskModel_joins.2.1 358 = .ok (.aload_n 0, 1) := by decide +kernel
theorem d_TrustDeskModel_joins_359 : decode kY_TrustDeskModel_joins.2.1 359 = .ok (.getfield 88, 3) := by decide +kernel
theorem d_TrustDeskModel_joins_362 : decode kY_TrustDeskModel_joins.2.1 362 = .ok (.bipush 100, 2) := by decide +kernel
theorem d_TrustDeskModel_joins_364 : decode kY_TrustDeskModel_joins.2.1 364 = .ok (.iload_n 1, 1) := by decide +kernel
theorem d_TrustDeskModel_joins_365 : decode kY_TrustDeskModel_joins.2.1 365 = .ok (.imul, 1) := by decide +kernel
theorem d_TrustDeskModel_joins_366 : decode kY_TrustDeskModel_joins.2.1 366 = .ok (.iload 9, 2) := by decide +kernel
theorem d_TrustDeskModel_joins_368 : decode kY_TrustDeskModel_joins.2.1 368 = .ok (.iadd, 1) := by decide +kernel
theorem d_TrustDeskModel_joins_369 : decode kY_TrustDeskModel_joins.2.1 369 = .ok (.iconst 0, 1) := by decide +kernel
theorem d_TrustDeskModel_joins_370 : decode kY_TrustDeskModel_joins.2.1 370 = .ok (.bastore, 1) := by decide +kernel
theorem d_TrustDeskModel_joins_371 : decode kY_TrustDeskModel_joins.2.1 371 = .ok (.iinc 9 1, 3) := by decide +kernel
theorem d_TrustDeskModel_joins_374 : decode kY_TrustDeskModel_joins.2.1 374 = .ok (.goto (-23), 3) := by decide +kernel
theorem d_TrustDeskModel_joins_246 : decode kY_TrustDeskModel_joins.2.1 246 = .ok (.bipush 80, 2) := by decide +kernel
theorem d_TrustDeskModel_joins_248 : decode kY_TrustDeskModel_joins.2.1 248 = .ok (.iload_n 1, 1) := by decide +kernel
theorem d_TrustDeskModel_joins_249 : decode kY_TrustDeskModel_joins.2.1 249 = .ok (.imul, 1) := by decide +kernel
theorem d_TrustDeskModel_joins_250 : decode kY_TrustDeskModel_joins.2.1 250 = .ok (.iload 9, 2) := by decide +kernel
theorem d_TrustDeskModel_joins_252 : decode kY_TrustDeskModel_joins.2.1 252 = .ok (.iadd, 1) := by decide +kernel
theorem d_TrustDeskModel_joins_253 : decode kY_TrustDeskModel_joins.2.1 253 = .ok (.istore 10, 2) := by decide +kernel
theorem d_TrustDeskModel_joins_255 : decode kY_TrustDeskModel_joins.2.1 255 = .ok (.aload_n 0, 1) := by decide +kernel
theorem d_TrustDeskModel_joins_256 : decode kY_TrustDeskModel_joins.2.1 256 = .ok (.getfield 107, 3) := by decide +kernel
theorem d_TrustDeskModel_joins_259 : decode kY_TrustDeskModel_joins.2.1 259 = .ok (.iload 10, 2) := by decide +kernel
theorem d_TrustDeskModel_joins_261 : decode kY_TrustDeskModel_joins.2.1 261 = .ok (.iaload, 1) := by decide +kernel
theorem d_TrustDeskModel_joins_262 : decode kY_TrustDeskModel_joins.2.1 262 = .ok (.iconst 2, 1) := by decide +kernel
theorem d_TrustDeskModel_joins_263 : decode kY_TrustDeskModel_joins.2.1 263 = .ok (.if_icmp .eq 43, 3) := by decide +kernel
theorem d_TrustDeskModel_joins_306 : decode kY_TrustDeskModel_joins.2.1 306 = .ok (.aload_n 0, 1) := by decide +kernel
theorem d_TrustDeskModel_joins_307 : decode kY_TrustDeskModel_joins.2.1 307 = .ok (.getfield 107, 3) := by decide +kernel
theorem d_TrustDeskModel_joins_310 : decode kY_TrustDeskModel_joins.2.1 310 = .ok (.iload 10, 2) := by decide +kernel
theorem d_TrustDeskModel_joins_312 : decode kY_TrustDeskModel_joins.2.1 312 = .ok (.iconst 2, 1) := by decide +kernel
theorem d_TrustDeskModel_joins_313 : decode kY_TrustDeskModel_joins.2.1 313 = .ok (.iastore, 1) := by decide +kernel
theorem d_TrustDeskModel_joins_314 : decode kY_TrustDeskModel_joins.2.1 314 = .ok (.iinc 9 1, 3) := by decide +kernel
theorem d_TrustDeskModel_joins_317 : decode kY_TrustDeskModel_joins.2.1 317 = .ok (.goto (-82), 3) := by decide +kernel
theorem d_TrustDeskModel_joins_266 : decode kY_TrustDeskModel_joins.2.1 266 = .ok (.aload_n 0, 1) := by decide +kernel
theorem d_TrustDeskModel_joins_267 : decode kY_TrustDeskModel_joins.2.1 267 = .ok (.iload_n 2, 1) := by decide +kernel
theorem d_TrustDeskModel_joins_268 : decode kY_TrustDeskModel_joins.2.1 268 = .ok (.aload_n 0, 1) := by decide +kernel
theorem d_TrustDeskModel_joins_269 : decode kY_TrustDeskModel_joins.2.1 269 = .ok (.getfield 101, 3) := by decide +kernel
theorem d_TrustDeskModel_joins_272 : decode kY_TrustDeskModel_joins.2.1 272 = .ok (.iload 10, 2) := by decide +kernel
theorem d_TrustDeskModel_joins_274 : decode kY_TrustDeskModel_joins.2.1 274 = .ok (.iaload, 1) := by decide +kernel
theorem d_TrustDeskModel_joins_275 : decode kY_TrustDeskModel_joins.2.1 275 = .ok (.aload_n 0, 1) := by decide +kernel
theorem d_TrustDeskModel_joins_276 : decode kY_TrustDeskModel_joins.2.1 276 = .ok (.getfield 104, 3) := by decide +kernel
theorem d_TrustDeskModel_joins_279 : decode kY_TrustDeskModel_joins.2.1 279 = .ok (.iload 10, 2) := by decide +kernel
theorem d_TrustDeskModel_joins_281 : decode kY_TrustDeskModel_joins.2.1 281 = .ok (.iaload, 1) := by decide +kernel
theorem d_TrustDeskModel_joins_282 : decode kY_TrustDeskModel_joins.2.1 282 = .ok (.aload_n 0, 1) := by decide +kernel
theorem d_TrustDeskModel_joins_283 : decode kY_TrustDeskModel_joins.2.1 283 = .ok (.getfield 107, 3) := by decide +kernel
theorem d_TrustDeskModel_joins_286 : decode kY_TrustDeskModel_joins.2.1 286 = .ok (.iload 10, 2) := by decide +kernel
theorem d_TrustDeskModel_joins_288 : decode kY_TrustDeskModel_joins.2.1 288 = .ok (.iaload, 1) := by decide +kernel
theorem d_TrustDeskModel_joins_289 : decode kY_TrustDeskModel_joins.2.1 289 = .ok (.aload_n 0, 1) := by decide +kernel
theorem d_TrustDeskModel_joins_290 : decode kY_TrustDeskModel_joins.2.1 290 = .ok (.getfield 110, 3) := by decide +kernel
theorem d_TrustDeskModel_joins_293 : decode kY_TrustDeskModel_joins.2.1 293 = .ok (.iload 10, 2) := by decide +kernel
theorem d_TrustDeskModel_joins_295 : decode kY_TrustDeskModel_joins.2.1 295 = .ok (.iaload, 1) := by decide +kernel
theorem d_TrustDeskModel_joins_296 : decode kY_TrustDeskModel_joins.2.1 296 = .ok (.aload_n 0, 1) := by decide +kernel
theorem d_TrustDeskModel_joins_297 : decode kY_TrustDeskModel_joins.2.1 297 = .ok (.getfield 113, 3) := by decide +kernel
theorem d_TrustDeskModel_joins_300 : decode kY_TrustDeskModel_joins.2.1 300 = .ok (.iload 10, 2) := by decide +kernel
theorem d_TrustDeskModel_joins_302 : decode kY_TrustDeskModel_joins.2.1 302 = .ok (.iaload, 1) := by decide +kernel
theorem d_TrustDeskModel_joins_303 : decode kY_TrustDeskModel_joins.2.1 303 = .ok (.invokevirtual 428, 3) := by decide +kernel
theorem d_TrustDeskModel_joins_133 : decode kY_TrustDeskModel_joins.2.1 133 = .ok (.iinc 8 1, 3) := by decide +kernel
theorem d_TrustDeskModel_joins_136 : decode kY_TrustDeskModel_joins.2.1 136 = .ok (.goto (-18), 3) := by decide +kernel
theorem d_TrustDeskModel_joins_42 : decode kY_TrustDeskModel_joins.2.1 42 = .ok (.aload_n 0, 1) := by decide +kernel
theorem d_TrustDeskModel_joins_43 : decode kY_TrustDeskModel_joins.2.1 43 = .ok (.getfield 92, 3) := by decide +kernel
theorem d_TrustDeskModel_joins_46 : decode kY_TrustDeskModel_joins.2.1 46 = .ok (.bipush 12, 2) := by decide +kernel
theorem d_TrustDeskModel_joins_48 : decode kY_TrustDeskModel_joins.2.1 48 = .ok (.iload_n 2, 1) := by decide +kernel
theorem d_TrustDeskModel_joins_49 : decode kY_TrustDeskModel_joins.2.1 49 = .ok (.imul, 1) := by decide +kernel
theorem d_TrustDeskModel_joins_50 : decode kY_TrustDeskModel_joins.2.1 50 = .ok (.iload 8, 2) := by decide +kernel
theorem d_TrustDeskModel_joins_52 : decode kY_TrustDeskModel_joins.2.1 52 = .ok (.iadd, 1) := by decide +kernel
theorem d_TrustDeskModel_joins_53 : decode kY_TrustDeskModel_joins.2.1 53 = .ok (.lload 5, 2) := by decide +kernel
theorem d_TrustDeskModel_joins_55 : decode kY_TrustDeskModel_joins.2.1 55 = .ok (.aload_n 0, 1) := by decide +kernel
theorem d_TrustDeskModel_joins_56 : decode kY_TrustDeskModel_joins.2.1 56 = .ok (.getfield 92, 3) := by decide +kernel
theorem d_TrustDeskModel_joins_59 : decode kY_TrustDeskModel_joins.2.1 59 = .ok (.bipush 12, 2) := by decide +kernel
theorem d_TrustDeskModel_joins_61 : decode kY_TrustDeskModel_joins.2.1 61 = .ok (.iload_n 2, 1) := by decide +kernel
theorem d_TrustDeskModel_joins_62 : decode kY_TrustDeskModel_joins.2.1 62 = .ok (.imul, 1) := by decide +kernel
theorem d_TrustDeskModel_joins_63 : decode kY_TrustDeskModel_joins.2.1 63 = .ok (.iload 8, 2) := by decide +kernel
theorem d_TrustDeskModel_joins_65 : decode kY_TrustDeskModel_joins.2.1 65 = .ok (.iadd, 1) := by decide +kernel
theorem d_TrustDeskModel_joins_66 : decode kY_TrustDeskModel_joins.2.1 66 = .ok (.iaload, 1) := by decide +kernel
theorem d_TrustDeskModel_joins_67 : decode kY_TrustDeskModel_joins.2.1 67 = .ok (.i2l, 1) := by decide +kernel
theorem d_TrustDeskModel_joins_68 : decode kY_TrustDeskModel_joins.2.1 68 = .ok (.lmul, 1) := by decide +kernel
theorem d_TrustDeskModel_joins_69 : decode kY_TrustDeskModel_joins.2.1 69 = .ok (.lload_n 3, 1) := by decide +kernel
theorem d_TrustDeskModel_joins_70 : decode kY_TrustDeskModel_joins.2.1 70 = .ok (.aload_n 0, 1) := by decide +kernel
theorem d_TrustDeskModel_joins_71 : decode kY_TrustDeskModel_joins.2.1 71 = .ok (.getfield 92, 3) := by decide +kernel
theorem d_TrustDeskModel_joins_74 : decode kY_TrustDeskModel_joins.2.1 74 = .ok (.bipush 12, 2) := by decide +kernel
theorem d_TrustDeskModel_joins_76 : decode kY_TrustDeskModel_joins.2.1 76 = .ok (.iload_n 1, 1) := by decide +kernel
theorem d_TrustDeskModel_joins_77 : decode kY_TrustDeskModel_joins.2.1 77 = .ok (.imul, 1) := by decide +kernel
theorem d_TrustDeskModel_joins_78 : decode kY_TrustDeskModel_joins.2.1 78 = .ok (.iload 8, 2) := by decide +kernel
theorem d_TrustDeskModel_joins_80 : decode kY_TrustDeskModel_joins.2.1 80 = .ok (.iadd, 1) := by decide +kernel
theorem d_TrustDeskModel_joins_81 : decode kY_TrustDeskModel_joins.2.1 81 = .ok (.iaload, 1) := by decide +kernel
theorem d_TrustDeskModel_joins_82 : decode kY_TrustDeskModel_joins.2.1 82 = .ok (.i2l, 1) := by decide +kernel
theorem d_TrustDeskModel_joins_83 : decode kY_TrustDeskModel_joins.2.1 83 = .ok (.lmul, 1) := by decide +kernel
theorem d_TrustDeskModel_joins_84 : decode kY_TrustDeskModel_joins.2.1 84 = .ok (.ladd, 1) := by decide +kernel
theorem d_TrustDeskModel_joins_85 : decode kY_TrustDeskModel_joins.2.1 85 = .ok (.lload_n 3, 1) := by decide +kernel
theorem d_TrustDeskModel_joins_86 : decode kY_TrustDeskModel_joins.2.1 86 = .ok (.lload 5, 2) := by decide +kernel
theorem d_TrustDeskModel_joins_88 : decode kY_TrustDeskModel_joins.2.1 88 = .ok (.ladd, 1) := by decide +kernel
theorem d_TrustDeskModel_joins_89 : decode kY_TrustDeskModel_joins.2.1 89 = .ok (.ldiv, 1) := by decide +kernel
theorem d_TrustDeskModel_joins_90 : decode kY_TrustDeskModel_joins.2.1 90 = .ok (.l2i, 1) := by decide +kernel
theorem d_TrustDeskModel_joins_91 : decode kY_TrustDeskModel_joins.2.1 91 = .ok (.iastore, 1) := by decide +kernel
theorem d_TrustDeskModel_joins_92 : decode kY_TrustDeskModel_joins.2.1 92 = .ok (.iload 7, 2) := by decide +kernel
theorem d_TrustDeskModel_joins_94 : decode kY_TrustDeskModel_joins.2.1 94 = .ok (.aload_n 0, 1) := by decide +kernel
theorem d_TrustDeskModel_joins_95 : decode kY_TrustDeskModel_joins.2.1 95 = .ok (.getfield 92, 3) := by decide +kernel
theorem d_TrustDeskModel_joins_98 : decode kY_TrustDeskModel_joins.2.1 98 = .ok (.bipush 12, 2) := by decide +kernel
theorem d_TrustDeskModel_joins_100 : decode kY_TrustDeskModel_joins.2.1 100 = .ok (.iload_n 2, 1) := by decide +kernel
theorem d_TrustDeskModel_joins_101 : decode kY_TrustDeskModel_joins.2.1 101 = .ok (.imul, 1) := by decide +kernel
theorem d_TrustDeskModel_joins_102 : decode kY_TrustDeskModel_joins.2.1 102 = .ok (.iload 8, 2) := by decide +kernel
theorem d_TrustDeskModel_joins_104 : decode kY_TrustDeskModel_joins.2.1 104 = .ok (.iadd, 1) := by decide +kernel
theorem d_TrustDeskModel_joins_105 : decode kY_TrustDeskModel_joins.2.1 105 = .ok (.iaload, 1) := by decide +kernel
theorem d_TrustDeskModel_joins_106 : decode kY_TrustDeskModel_joins.2.1 106 = .ok (.isub, 1) := by decide +kernel
theorem d_TrustDeskModel_joins_107 : decode kY_TrustDeskModel_joins.2.1 107 = .ok (.istore 7, 2) := by decide +kernel
theorem d_TrustDeskModel_joins_109 : decode kY_TrustDeskModel_joins.2.1 109 = .ok (.iinc 8 1, 3) := by decide +kernel
theorem d_TrustDeskModel_joins_112 : decode kY_TrustDeskModel_joins.2.1 112 = .ok (.goto (-77), 3) := by decide +kernel
theorem d_TrustDeskModel_joins_22 : decode kY_TrustDeskModel_joins.2.1 22 = .ok (.lconst 1, 1) := by decide +kernel
theorem d_TrustDeskModel_joins_23 : decode kY_TrustDeskModel_joins.2.1 23 = .ok (.lstore_n 3, 1) := by decide +kernel
theorem d_TrustDeskModel_joins_24 : decode kY_TrustDeskModel_joins.2.1 24 = .ok (.lconst 1, 1) := by decide +kernel
theorem d_TrustDeskModel_joins_25 : decode kY_TrustDeskModel_joins.2.1 25 = .ok (.lstore 5, 2) := by decide +kernel
def w_TrustDeskModel_joins_x : List Nat := [20033, 20034, 20035, 20036, 20037, 20040, 20041, 20043, 20044, 20045, 20046, 20047, 20048]
set_option maxHeartbeats 100000000 in theorem tc_TrustDeskModel_joins_x {g : mj_G} {l : Launch} {d : Nat} {T0 : tm_H} {M0 : mj_M} {n0 x9 : Nat} {o0 : Nat} {x1 : Int32} {x2 : Int32} (h_o0 : T0 o0 = some (0, 13, 0)) (yR : rI M0 o0) (yC : rC M0 o0 44) (yP : rP M0 o0) (yB : rB M0 o0 12) (yfx : 0 ≤ x1.toInt ∧ x1.toInt < rv M0 o0 32 ∧ 0 ≤ x2.toInt ∧ x2.toInt < rv M0 o0 32 ∧ x1.toInt ≠ x2.toInt ∧ ra M0 o0 37 x1.toNatClampNeg = -1 ∧ ra M0 o0 37 x2.toNatClampNeg = -1) (I0 : tm_I tm_FT (tm_in w_TrustDeskModel_joins_x) x9 T0 M0 n0 T0 M0 n0) : mj_Met g l kY_TrustDeskModel_joins (d + 3) [.ref o0, .int x1, .int x2] M0 n0 0 0 (tm_Q tm_FT (tm_in w_TrustDeskModel_joins_x) x9 T0 M0 n0 (fun r _ M => r = none ∧ rI M o0 ∧ (rC M o0 44) ∧ (rP M o0) ∧ (rB M o0 12))) := by
  refine mj_enter (by decide) (Nat.le_of_ble_eq_true rfl) ?_
  obtain ⟨yf0, yf1, yx0, yx1, yfn, -, -⟩ := id yfx
  have := mz_nat9 (i := x1) yf0
  have := mz_nat9 (i := x2) yx0
  have := yR.1 32 _ _ rfl
  have := yR.2 43 _ _ rfl x1.toNatClampNeg
  have := es_pair (M := M0) (o := o0) (X := x2.toNatClampNeg) (F := x1.toNatClampNeg) ⟨by omega, yfx.2.2.2.2.2.2⟩ ⟨by omega, yfx.2.2.2.2.2.1⟩ (by omega) (fun i => (yR.2 43 _ _ rfl i).1) 12
  rw [if_pos (by omega), if_pos (by omega)] at this
  have := yB.1
  have K1 : rC M0 o0 44 := yC
  have K2 : ∀ i : Nat, i ≠ x2.toNatClampNeg → ra M0 o0 43 i = ra M0 o0 43 i := (fun _ _ => rfl)
  have K3 : sA [37] M0 M0 o0 := sA.rf
  have K4 : sA [41] M0 M0 o0 := sA.rf
  refine mv_aload_n d_TrustDeskModel_joins_0 rfl rfl ?_
  refine mv_iload_n d_TrustDeskModel_joins_1 rfl rfl ?_
  obtain ⟨_, b11, -⟩ := I0.1 _ _ h_o0
  refine mv_callV (kc' := 0) (ks' := 0) (As := [.int x1]) (st9 := [.int x1, .ref o0]) d_TrustDeskModel_joins_2 lV_TrustDeskModel_541 b11 rfl (tc_TrustDeskModel_worth_x (d := d) (x9 := x9) (o0 := o0) (x1 := x1) h_o0 (by have := yR.1 32 _ _ rfl; omega) yR I0.start) rfl (Nat.le_of_ble_eq_true rfl) (Nat.le_of_ble_eq_true rfl) (Nat.le_of_ble_eq_true rfl) (hst := rfl) (fun b5r M6 n7 b5 => ?_)
  obtain ⟨T8, J9, v12, rfl, R13, f14⟩ := b5
  have I10 := I0.call J9 (tm_sub (by decide)) (Or.inl rfl)
  have t15 := J9.up h_o0
  have z16 := (rv_c I0 J9 (I0.up h_o0) (k := 32) rfl)
  have z17 := (ra_call I0 J9 (I0.up h_o0) (k := 43) rfl rfl rfl x2.toNatClampNeg)
  have K18 : rC M6 o0 44 := K1.same (sA_c I0 J9 (I0.up h_o0) (by decide +kernel)) (sF_c I0 J9 (I0.up h_o0) (by decide +kernel))
  have K19 : ∀ i : Nat, i ≠ x2.toNatClampNeg → ra M6 o0 43 i = ra M0 o0 43 i := (by have e9 := ((sA_c I0 J9 (I0.up h_o0) (by decide +kernel)) : sA [43] _ _ _) 43 rfl; rw [e9]; exact K2)
  have K20 : sA [37] M0 M6 o0 := K3.trans (sA_c I0 J9 (I0.up h_o0) (by decide +kernel))
  have K21 : sA [41] M0 M6 o0 := K4.trans (sA_c I0 J9 (I0.up h_o0) (by decide +kernel))
  refine mv_lstore_n (lv' := [(3, .long v12), (0, .ref o0), (1, .int x1), (2, .int x2)]) d_TrustDeskModel_joins_5 rfl (by decide) rfl ?_
  refine mv_aload_n d_TrustDeskModel_joins_6 rfl rfl ?_
  refine mv_iload_n d_TrustDeskModel_joins_7 rfl rfl ?_
  obtain ⟨_, b28, -⟩ := I10.1 _ _ t15
  refine mv_callV (kc' := 0) (ks' := 0) (As := [.int x2]) (st9 := [.int x2, .ref o0]) d_TrustDeskModel_joins_8 lV_TrustDeskModel_541 b28 rfl (tc_TrustDeskModel_worth_x (d := d) (x9 := x9) (o0 := o0) (x1 := x2) t15 (by have := R13.1 32 _ _ rfl; omega) R13 I10.start) rfl (Nat.le_of_ble_eq_true rfl) (Nat.le_of_ble_eq_true rfl) (Nat.le_of_ble_eq_true rfl) (hst := rfl) (fun b22r M23 n24 b22 => ?_)
  obtain ⟨T25, J26, v29, rfl, R30, f31⟩ := b22
  have I27 := I10.call J26 (tm_sub (by decide)) (Or.inl rfl)
  have t32 := J26.up t15
  have z33 := (rv_c I10 J26 (I10.up h_o0) (k := 32) rfl).trans z16
  have z34 := (ra_call I10 J26 (I10.up h_o0) (k := 43) rfl rfl rfl x2.toNatClampNeg).trans z17
  have K35 : rC M23 o0 44 := K18.same (sA_c I10 J26 (I10.up h_o0) (by decide +kernel)) (sF_c I10 J26 (I10.up h_o0) (by decide +kernel))
  have K36 : ∀ i : Nat, i ≠ x2.toNatClampNeg → ra M23 o0 43 i = ra M0 o0 43 i := (by have e9 := ((sA_c I10 J26 (I10.up h_o0) (by decide +kernel)) : sA [43] _ _ _) 43 rfl; rw [e9]; exact K19)
  have K37 : sA [37] M0 M23 o0 := K20.trans (sA_c I10 J26 (I10.up h_o0) (by decide +kernel))
  have K38 : sA [41] M0 M23 o0 := K21.trans (sA_c I10 J26 (I10.up h_o0) (by decide +kernel))
  clear z16 z17
  refine mv_lstore (lv' := [(5, .long v29), (3, .long v12), (0, .ref o0), (1, .int x1), (2, .int x2)]) d_TrustDeskModel_joins_11 (by decide) rfl ?_
  refine mv_lload_n d_TrustDeskModel_joins_13 rfl rfl ?_
  refine mv_lload d_TrustDeskModel_joins_14 rfl ?_
  refine mv_ladd d_TrustDeskModel_joins_16 ?_
  refine mv_lconst (v := 0) d_TrustDeskModel_joins_17 (by decide) ?_
  have b39 : ((v12 + v29) : Int64).toInt = (v12.toInt + v29.toInt) := mz_addL rfl rfl (by have := R30.1 32 _ _ rfl; omega) (by have := R30.1 32 _ _ rfl; omega)
  have : ((v12 + v29) : Int64).toInt = (v12.toInt + v29.toInt) := b39
  refine mv_lneZ (tgt := 27) (a := (v12 + v29).toInt) (b := 0) d_TrustDeskModel_joins_18 d_TrustDeskModel_joins_19 (by decide) rfl (by decide) (fun b40 => ?_) (fun b40 => ?_)
  · have K41 : rPJ M0 M23 o0 x2.toNatClampNeg x1.toNatClampNeg v12.toInt v29.toInt 0 := rPJ.rf.same (K38 41 rfl)
    have K42 : rPS M23 o0 x2.toNatClampNeg 0 0 := rfl
    refine mv_ldcw d_TrustDeskModel_joins_27 k_TrustDeskModel_432 ?_
    refine mv_istore (lv' := [(7, .int 1000000), (5, .long v29), (3, .long v12), (0, .ref o0), (1, .int x1), (2, .int x2)]) d_TrustDeskModel_joins_30 (by decide) rfl ?_
    refine mv_iconst (v := 0) d_TrustDeskModel_joins_32 (by decide) ?_
    refine mv_istore (lv' := [(8, .int 0), (7, .int 1000000), (5, .long v29), (3, .long v12), (0, .ref o0), (1, .int x1), (2, .int x2)]) d_TrustDeskModel_joins_33 (by decide) rfl ?_
    have L35_43 : ∀ (k : Nat) (i8_43 : Int32) (i7_43 : Int32) (T_43 : tm_H) (M_43 : mj_M) (n_43 : Nat), tm_I tm_FT (tm_in w_TrustDeskModel_joins_x) x9 T0 M0 n0 T_43 M_43 n_43 → T_43 o0 = some (0, 13, 0) → 0 ≤ i8_43.toInt → rv M_43 o0 32 = rv M0 o0 32 → ra M_43 o0 43 x2.toNatClampNeg = ra M0 o0 43 x2.toNatClampNeg → i7_43.toInt ≤ 1000000 → 1000000 - 1000000 * i8_43.toInt ≤ i7_43.toInt → i8_43.toInt ≤ 12 → (rI M_43 o0) → (rC M_43 o0 44) → (∀ i : Nat, i ≠ x2.toNatClampNeg → ra M_43 o0 43 i = ra M0 o0 43 i) → (sA [37] M0 M_43 o0) → (rPJ M0 M_43 o0 x2.toNatClampNeg x1.toNatClampNeg v12.toInt v29.toInt i8_43.toInt) → (rPS M_43 o0 x2.toNatClampNeg i8_43.toInt (1000000 - i7_43.toInt)) → 2147483647 - i8_43.toInt < (k : Int) → mj_V g l kY_TrustDeskModel_joins (d + 3) 35 [(8, .int i8_43), (7, .int i7_43), (5, .long v29), (3, .long v12), (0, .ref o0), (1, .int x1), (2, .int x2)] [] M_43 n_43 0 0 (tm_Q tm_FT (tm_in w_TrustDeskModel_joins_x) x9 T0 M0 n0 (fun r _ M => r = none ∧ rI M o0 ∧ (rC M o0 44) ∧ (rP M o0) ∧ (rB M o0 12))) := by
      intro k43
      induction k43 with
      | zero =>
        intro i8_43 i7_43 T_43 M_43 n_43 I_43 h_q0_43 iv0_43 iv1_43 iv2_43 iv3_43 iv4_43 iv5_43 kKR_43 kKC_43 kK43x_43 kKT37_43 kKPJ_43 kKPS_43 hk43
        have := mz_hi i8_43
        have := kKR_43.1 15 _ _ rfl
        have := kKR_43.1 16 _ _ rfl
        have := kKR_43.1 19 _ _ rfl
        omega
      | succ k43 ih43 =>
        intro i8_43 i7_43 T_43 M_43 n_43 I_43 h_q0_43 iv0_43 iv1_43 iv2_43 iv3_43 iv4_43 iv5_43 kKR_43 kKC_43 kK43x_43 kKT37_43 kKPJ_43 kKPS_43 hk43
        refine mv_iload d_TrustDeskModel_joins_35 rfl ?_
        refine mv_bipush (v := 12) d_TrustDeskModel_joins_37 (by decide) ?_
        have := mz_hi i8_43
        refine mv_icmp_geZ (tgt := 115) (a := i8_43.toInt) (b := 12) d_TrustDeskModel_joins_39 (by decide) rfl (by decide) (fun b44 => ?_) (fun b44 => ?_)
        · obtain ⟨h46, j45, h47, h48⟩ := rPJ.fin (kKPJ_43.cast (k1 := 12) (by omega)) (by omega) (yP x2.toNatClampNeg (by omega) (by omega) yfx.2.2.2.2.2.2) (yP x1.toNatClampNeg (by omega) (by omega) yfx.2.2.2.2.2.1)
          have K49 : ra M_43 o0 41 (12 * x2.toNatClampNeg + j45) ≠ 0 := h48
          have K50 : rPJ M0 M_43 o0 x2.toNatClampNeg x1.toNatClampNeg v12.toInt v29.toInt 12 := kKPJ_43.cast (by omega)
          have K51 : rPS M_43 o0 x2.toNatClampNeg 12 (1000000 - i7_43.toInt) := kKPS_43.cast (by omega) (by omega)
          have : sm (ra M_43 o0 41) (12 * x2.toNatClampNeg) 12 = 1000000 - i7_43.toInt := K51
          have : 0 ≤ i7_43.toInt := by omega
          refine mv_iconst (v := 0) d_TrustDeskModel_joins_115 (by decide) ?_
          refine mv_istore (lv' := [(8, .int 0), (7, .int i7_43), (5, .long v29), (3, .long v12), (0, .ref o0), (1, .int x1), (2, .int x2)]) d_TrustDeskModel_joins_116 (by decide) rfl ?_
          have L118_52 : ∀ (k : Nat) (i8_52 : Int32) (T_52 : tm_H) (M_52 : mj_M) (n_52 : Nat), tm_I tm_FT (tm_in w_TrustDeskModel_joins_x) x9 T0 M0 n0 T_52 M_52 n_52 → T_52 o0 = some (0, 13, 0) → 0 ≤ i8_52.toInt → rv M_52 o0 32 = rv M0 o0 32 → ra M_52 o0 43 x2.toNatClampNeg = ra M0 o0 43 x2.toNatClampNeg → i8_52.toInt ≤ (j45 : Int) → (rI M_52 o0) → (rC M_52 o0 44) → (∀ i : Nat, i ≠ x2.toNatClampNeg → ra M_52 o0 43 i = ra M0 o0 43 i) → (sA [37] M0 M_52 o0) → (rPJ M0 M_52 o0 x2.toNatClampNeg x1.toNatClampNeg v12.toInt v29.toInt 12) → (rPS M_52 o0 x2.toNatClampNeg 12 (1000000 - i7_43.toInt)) → (ra M_52 o0 41 (12 * x2.toNatClampNeg + j45) ≠ 0) → 2147483647 - i8_52.toInt < (k : Int) → mj_V g l kY_TrustDeskModel_joins (d + 3) 118 [(8, .int i8_52), (7, .int i7_43), (5, .long v29), (3, .long v12), (0, .ref o0), (1, .int x1), (2, .int x2)] [] M_52 n_52 0 0 (tm_Q tm_FT (tm_in w_TrustDeskModel_joins_x) x9 T0 M0 n0 (fun r _ M => r = none ∧ rI M o0 ∧ (rC M o0 44) ∧ (rP M o0) ∧ (rB M o0 12))) := by
            intro k52
            induction k52 with
            | zero =>
              intro i8_52 T_52 M_52 n_52 I_52 h_q0_52 iv0_52 iv1_52 iv2_52 iv3_52 kKR_52 kKC_52 kK43x_52 kKT37_52 kKPJ_52 kKPS_52 kKJ0_52 hk52
              have := mz_hi i8_52
              have := kKR_52.1 15 _ _ rfl
              have := kKR_52.1 16 _ _ rfl
              have := kKR_52.1 19 _ _ rfl
              omega
            | succ k52 ih52 =>
              intro i8_52 T_52 M_52 n_52 I_52 h_q0_52 iv0_52 iv1_52 iv2_52 iv3_52 kKR_52 kKC_52 kK43x_52 kKT37_52 kKPJ_52 kKPS_52 kKJ0_52 hk52
              refine mv_aload_n d_TrustDeskModel_joins_118 rfl rfl ?_
              obtain ⟨a54, q53, t_a54⟩ := tm_atR I_52 h_q0_52 (k := 41) rfl
              refine tr_getK q53 d_TrustDeskModel_joins_119 f_TrustDeskModel_92_13 ?_
              refine mv_bipush (v := 12) d_TrustDeskModel_joins_122 (by decide) ?_
              refine mv_iload_n d_TrustDeskModel_joins_124 rfl rfl ?_
              refine mv_imul d_TrustDeskModel_joins_125 ?_
              refine mv_iload d_TrustDeskModel_joins_126 rfl ?_
              refine mv_iadd d_TrustDeskModel_joins_128 ?_
              have b55 : (12 * x2 : Int32).toInt = (12 * x2.toInt) := mz_mul2 (by decide) rfl (by have := kKR_52.1 32 _ _ rfl; omega) (by have := kKR_52.1 32 _ _ rfl; omega)
              have b56 : ((12 * x2) + i8_52 : Int32).toInt = ((12 * x2.toInt) + i8_52.toInt) := mz_add2 b55 rfl (by have := kKR_52.1 32 _ _ rfl; omega) (by have := kKR_52.1 32 _ _ rfl; omega)
              refine tr_ialdR (o := o0) (k := 41) I_52 q53 t_a54 (by decide) d_TrustDeskModel_joins_129 (vp_in_iff.mpr (by have := kKR_52.1 32 _ _ rfl; omega)) (fun v57 e58 => ?_)
              have := kKR_52.a (k := 41) rfl (((12 * x2) + i8_52) : Int32).toNatClampNeg
              have h59 : ((12 * x2) + i8_52).toNatClampNeg = 12 * x2.toNatClampNeg + i8_52.toInt.toNat := by have := mz_nat9 (i := ((12 * x2) + i8_52)) (by have := kKR_52.1 32 _ _ rfl; omega); have := mz_nat9 (i := x2) (by have := kKR_52.1 32 _ _ rfl; omega); have := kKR_52.1 32 _ _ rfl; omega
              have e60 : v57.toInt = ra M_52 o0 41 (12 * x2.toNatClampNeg + i8_52.toInt.toNat) := by rw [e58, h59]
              have : i8_52.toInt = (j45 : Int) → v57.toInt ≠ 0 := fun h9 => by rw [e60, show i8_52.toInt.toNat = j45 from by omega]; exact kKJ0_52
              have := sm_mem (g := ra M_52 o0 41) (b := 12 * x2.toNatClampNeg) (j := i8_52.toInt.toNat) 12 (fun k9 _ => (kKR_52.2 41 _ _ rfl _).1) (by omega)
              have : sm (ra M_52 o0 41) (12 * x2.toNatClampNeg) 12 = _ := kKPS_52
              have := mz_hi v57
              refine mv_if_neZ (tgt := 139) (a := v57.toInt) d_TrustDeskModel_joins_130 (by decide) rfl (fun b61 => ?_) (fun b61 => ?_)
              · refine mv_aload_n d_TrustDeskModel_joins_139 rfl rfl ?_
                refine tr_getK (k := 41) q53 d_TrustDeskModel_joins_140 f_TrustDeskModel_92_13 ?_
                refine mv_bipush (v := 12) d_TrustDeskModel_joins_143 (by decide) ?_
                refine mv_iload_n d_TrustDeskModel_joins_145 rfl rfl ?_
                refine mv_imul d_TrustDeskModel_joins_146 ?_
                refine mv_iload d_TrustDeskModel_joins_147 rfl ?_
                refine mv_iadd d_TrustDeskModel_joins_149 ?_
                refine mv_dup2_11 d_TrustDeskModel_joins_150 rfl rfl ?_
                have b62 : (12 * x2 : Int32).toInt = (12 * x2.toInt) := mz_mul2 (by decide) rfl (by have := kKR_52.1 32 _ _ rfl; omega) (by have := kKR_52.1 32 _ _ rfl; omega)
                have b63 : ((12 * x2) + i8_52 : Int32).toInt = ((12 * x2.toInt) + i8_52.toInt) := mz_add2 b62 rfl (by have := kKR_52.1 32 _ _ rfl; omega) (by have := kKR_52.1 32 _ _ rfl; omega)
                refine tr_ialdR (o := o0) (k := 41) I_52 q53 t_a54 (by decide) d_TrustDeskModel_joins_151 (vp_in_iff.mpr (by have := kKR_52.1 32 _ _ rfl; omega)) (fun v64 e65 => ?_)
                have := kKR_52.a (k := 41) rfl (((12 * x2) + i8_52) : Int32).toNatClampNeg
                have h66 : ((12 * x2) + i8_52).toNatClampNeg = 12 * x2.toNatClampNeg + i8_52.toInt.toNat := by have := mz_nat9 (i := ((12 * x2) + i8_52)) (by have := kKR_52.1 32 _ _ rfl; omega); have := mz_nat9 (i := x2) (by have := kKR_52.1 32 _ _ rfl; omega); have := kKR_52.1 32 _ _ rfl; omega
                have e67 : v64.toInt = ra M_52 o0 41 (12 * x2.toNatClampNeg + i8_52.toInt.toNat) := by rw [e65, h66]
                have : i8_52.toInt = (j45 : Int) → v64.toInt ≠ 0 := fun h9 => by rw [e67, show i8_52.toInt.toNat = j45 from by omega]; exact kKJ0_52
                have := sm_mem (g := ra M_52 o0 41) (b := 12 * x2.toNatClampNeg) (j := i8_52.toInt.toNat) 12 (fun k9 _ => (kKR_52.2 41 _ _ rfl _).1) (by omega)
                have : sm (ra M_52 o0 41) (12 * x2.toNatClampNeg) 12 = _ := kKPS_52
                refine mv_iload d_TrustDeskModel_joins_152 rfl ?_
                refine mv_iadd d_TrustDeskModel_joins_154 ?_
                have b68 : (12 * x2 : Int32).toInt = (12 * x2.toInt) := mz_mul2 (by decide) rfl (by have := kKR_52.1 32 _ _ rfl; omega) (by have := kKR_52.1 32 _ _ rfl; omega)
                have b69 : ((12 * x2) + i8_52 : Int32).toInt = ((12 * x2.toInt) + i8_52.toInt) := mz_add2 b68 rfl (by have := kKR_52.1 32 _ _ rfl; omega) (by have := kKR_52.1 32 _ _ rfl; omega)
                have b70 : (v64 + i7_43 : Int32).toInt = (v64.toInt + i7_43.toInt) := mz_add2 rfl rfl (by have := kKR_52.1 32 _ _ rfl; omega) (by have := kKR_52.1 32 _ _ rfl; omega)
                refine tr_iastR (k := 41) I_52 kKR_52 (I_52.up h_o0) q53 t_a54 (by decide) (by decide) (fun lo hi h => by cases h; have := kKR_52.1 32 _ _ rfl; exact ⟨by show (0 : Int) ≤ (v64 + i7_43).toInt; omega, by show (v64 + i7_43).toInt ≤ (1000000 : Int); omega⟩) (Or.inl (by decide)) d_TrustDeskModel_joins_155 (vp_in_iff.mpr (by have := kKR_52.1 32 _ _ rfl; omega)) (fun M71 I72 K73 R74 E75 A76 V77 => ?_)
                have z78 := (V77 32)
                have z79 := (A76 43 (by decide) rfl x2.toNatClampNeg)
                have K80 : rC M71 o0 44 := kKC_52.same (sA_a A76 (by decide +kernel)) (sF_a V77)
                have K81 : ∀ i : Nat, i ≠ x2.toNatClampNeg → ra M71 o0 43 i = ra M0 o0 43 i := (by have e9 := ((sA_a A76 (by decide +kernel)) : sA [43] _ _ _) 43 rfl; rw [e9]; exact kK43x_52)
                have K82 : sA [37] M0 M71 o0 := kKT37_52.trans (sA_a A76 (by decide +kernel))
                have h83 : ((12 * x2) + i8_52).toNatClampNeg = 12 * x2.toNatClampNeg + i8_52.toInt.toNat := by have := mz_nat9 (i := ((12 * x2) + i8_52)) (by have := kKR_52.1 32 _ _ rfl; omega); have := mz_nat9 (i := x2) (by have := kKR_52.1 32 _ _ rfl; omega); have := kKR_52.1 32 _ _ rfl; omega
                have K84 : sm (ra M71 o0 41) (12 * x2.toNatClampNeg) 12 = 1000000 ∧ ∀ i : Nat, ¬ (12 * x2.toNatClampNeg ≤ i ∧ (i : Int) < 12 * x2.toNatClampNeg + 12) → ra M71 o0 41 i = ra M0 o0 41 i := ⟨by have e8 := rPS.add (X := x2.toNatClampNeg) (n := i8_52.toInt.toNat) (d := i7_43.toInt) E75 h83 (by rw [h83, ← e67]; omega) 12; rw [if_pos (show i8_52.toInt.toNat < 12 by omega)] at e8; omega, fun i hi => by rw [E75 i, if_neg (by omega)]; exact kKPJ_52.2 i hi⟩
                refine mv_aload_n d_TrustDeskModel_joins_156 rfl rfl ?_
                refine mv_iload_n d_TrustDeskModel_joins_157 rfl rfl ?_
                refine mv_aload_n d_TrustDeskModel_joins_158 rfl rfl ?_
                obtain ⟨a86, q85, t_a86⟩ := tm_atR I72 h_q0_52 (k := 35) rfl
                refine tr_getK q85 d_TrustDeskModel_joins_159 f_TrustDeskModel_72_13 ?_
                refine mv_iload_n d_TrustDeskModel_joins_162 rfl rfl ?_
                refine tr_laldR (o := o0) (k := 35) I72 q85 t_a86 (by decide) d_TrustDeskModel_joins_163 (vp_in_iff.mpr (by have := R74.1 32 _ _ rfl; omega)) (fun v87 e88 => ?_)
                have := R74.a (k := 35) rfl (x1 : Int32).toNatClampNeg
                obtain ⟨_, b95, -⟩ := I72.1 _ _ h_q0_52
                refine mv_callV (kc' := 0) (ks' := 0) (As := [.int x2, .long v87]) (st9 := [.long v87, .int x2, .ref o0]) d_TrustDeskModel_joins_164 lV_TrustDeskModel_479 b95 rfl (tc_TrustDeskModel_gets_x (d := (d + 2)) (x9 := x9) (o0 := o0) (x1 := x2) (x2 := v87) h_q0_52 (by have := R74.1 32 _ _ rfl; omega) R74 (by have := R74.1 32 _ _ rfl; omega) I72.start) rfl (Nat.le_of_ble_eq_true rfl) (Nat.le_of_ble_eq_true rfl) (Nat.le_of_ble_eq_true rfl) (hst := rfl) (fun b89r M90 n91 b89 => ?_)
                obtain ⟨T92, J93, rfl, R96⟩ := b89
                have I94 := I72.call J93 (tm_sub (by decide)) (Or.inl rfl)
                have t97 := J93.up h_q0_52
                have z98 := (rv_c I72 J93 (I72.up h_o0) (k := 32) rfl).trans z78
                have z99 := (ra_call I72 J93 (I72.up h_o0) (k := 43) rfl rfl rfl x2.toNatClampNeg).trans z79
                have K100 : rC M90 o0 44 := K80.same (sA_c I72 J93 (I72.up h_o0) (by decide +kernel)) (sF_c I72 J93 (I72.up h_o0) (by decide +kernel))
                have K101 : ∀ i : Nat, i ≠ x2.toNatClampNeg → ra M90 o0 43 i = ra M0 o0 43 i := (by have e9 := ((sA_c I72 J93 (I72.up h_o0) (by decide +kernel)) : sA [43] _ _ _) 43 rfl; rw [e9]; exact K81)
                have K102 : sA [37] M0 M90 o0 := K82.trans (sA_c I72 J93 (I72.up h_o0) (by decide +kernel))
                have K103 : sm (ra M90 o0 41) (12 * x2.toNatClampNeg) 12 = 1000000 ∧ ∀ i : Nat, ¬ (12 * x2.toNatClampNeg ≤ i ∧ (i : Int) < 12 * x2.toNatClampNeg + 12) → ra M90 o0 41 i = ra M0 o0 41 i := (by have e9 := ((sA_c I72 J93 (I72.up h_o0) (by decide +kernel)) : sA [41] _ _ _) 41 rfl; rw [e9]; exact K84)
                clear z78 z79
                have q104 := J93.keep h_q0_52 (by decide) (K73 _ 13 41 _ q53)
                have t105 := J93.up t_a54
                have q106 := J93.keep h_q0_52 (by decide) q85
                have t107 := J93.up t_a86
                refine mv_aload_n d_TrustDeskModel_joins_167 rfl rfl ?_
                obtain ⟨a109, q108, t_a109⟩ := tm_atR I94 t97 (k := 33) rfl
                refine tr_getK q108 d_TrustDeskModel_joins_168 f_TrustDeskModel_66_13 ?_
                refine mv_iload_n d_TrustDeskModel_joins_171 rfl rfl ?_
                refine mv_sipush (v := 999) d_TrustDeskModel_joins_172 (by decide) ?_
                refine mv_aload_n d_TrustDeskModel_joins_175 rfl rfl ?_
                refine tr_getK (k := 33) q108 d_TrustDeskModel_joins_176 f_TrustDeskModel_66_13 ?_
                refine mv_iload_n d_TrustDeskModel_joins_179 rfl rfl ?_
                refine tr_ialdR (o := o0) (k := 33) I94 q108 t_a109 (by decide) d_TrustDeskModel_joins_180 (vp_in_iff.mpr (by have := R96.1 32 _ _ rfl; omega)) (fun v110 e111 => ?_)
                have := R96.a (k := 33) rfl (x2 : Int32).toNatClampNeg
                refine mv_aload_n d_TrustDeskModel_joins_181 rfl rfl ?_
                refine tr_getK (k := 33) q108 d_TrustDeskModel_joins_182 f_TrustDeskModel_66_13 ?_
                refine mv_iload_n d_TrustDeskModel_joins_185 rfl rfl ?_
                refine tr_ialdR (o := o0) (k := 33) I94 q108 t_a109 (by decide) d_TrustDeskModel_joins_186 (vp_in_iff.mpr (by have := R96.1 32 _ _ rfl; omega)) (fun v112 e113 => ?_)
                have := R96.a (k := 33) rfl (x1 : Int32).toNatClampNeg
                refine mv_iadd d_TrustDeskModel_joins_187 ?_
                have b114 : (v110 + v112 : Int32).toInt = (v110.toInt + v112.toInt) := mz_add2 rfl rfl (by have := R96.1 32 _ _ rfl; omega) (by have := R96.1 32 _ _ rfl; omega)
                obtain ⟨v115, b116, _, _, _⟩ := mz_min9 999 (v110 + v112)
                have : (999 : Int32).toInt = 999 := by decide
                refine mv_mmin (v := v115) d_TrustDeskModel_joins_188 (mj_in1 (List.mem_of_getElem? (i := 1992) (by decide +kernel)) rfl) (Nat.le_of_ble_eq_true rfl) b116 ?_
                refine tr_iastR (k := 33) I94 R96 (I94.up h_o0) q108 t_a109 (by decide) (by decide) (fun lo hi h => by cases h; have := R96.1 32 _ _ rfl; exact ⟨by show (0 : Int) ≤ v115.toInt; omega, by show v115.toInt ≤ (999 : Int); omega⟩) (Or.inl (by decide)) d_TrustDeskModel_joins_191 (vp_in_iff.mpr (by have := R96.1 32 _ _ rfl; omega)) (fun M117 I118 K119 R120 E121 A122 V123 => ?_)
                have z124 := (V123 32).trans z98
                have z125 := (A122 43 (by decide) rfl x2.toNatClampNeg).trans z99
                have K126 : rC M117 o0 44 := K100.same (sA_a A122 (by decide +kernel)) (sF_a V123)
                have K127 : ∀ i : Nat, i ≠ x2.toNatClampNeg → ra M117 o0 43 i = ra M0 o0 43 i := (by have e9 := ((sA_a A122 (by decide +kernel)) : sA [43] _ _ _) 43 rfl; rw [e9]; exact K101)
                have K128 : sA [37] M0 M117 o0 := K102.trans (sA_a A122 (by decide +kernel))
                have K129 : sm (ra M117 o0 41) (12 * x2.toNatClampNeg) 12 = 1000000 ∧ ∀ i : Nat, ¬ (12 * x2.toNatClampNeg ≤ i ∧ (i : Int) < 12 * x2.toNatClampNeg + 12) → ra M117 o0 41 i = ra M0 o0 41 i := (by have e9 := ((sA_a A122 (by decide +kernel)) : sA [41] _ _ _) 41 rfl; rw [e9]; exact K103)
                clear z98 z99
                refine mv_aload_n d_TrustDeskModel_joins_192 rfl rfl ?_
                obtain ⟨a131, q130, t_a131⟩ := tm_atR I118 t97 (k := 34) rfl
                refine tr_getK q130 d_TrustDeskModel_joins_193 f_TrustDeskModel_69_13 ?_
                refine mv_iload_n d_TrustDeskModel_joins_196 rfl rfl ?_
                refine mv_ldcw d_TrustDeskModel_joins_197 k_TrustDeskModel_547 ?_
                refine mv_aload_n d_TrustDeskModel_joins_200 rfl rfl ?_
                refine tr_getK (k := 34) q130 d_TrustDeskModel_joins_201 f_TrustDeskModel_69_13 ?_
                refine mv_iload_n d_TrustDeskModel_joins_204 rfl rfl ?_
                refine tr_ialdR (o := o0) (k := 34) I118 q130 t_a131 (by decide) d_TrustDeskModel_joins_205 (vp_in_iff.mpr (by have := R120.1 32 _ _ rfl; omega)) (fun v132 e133 => ?_)
                have := R120.a (k := 34) rfl (x2 : Int32).toNatClampNeg
                refine mv_aload_n d_TrustDeskModel_joins_206 rfl rfl ?_
                refine tr_getK (k := 34) q130 d_TrustDeskModel_joins_207 f_TrustDeskModel_69_13 ?_
                refine mv_iload_n d_TrustDeskModel_joins_210 rfl rfl ?_
                refine tr_ialdR (o := o0) (k := 34) I118 q130 t_a131 (by decide) d_TrustDeskModel_joins_211 (vp_in_iff.mpr (by have := R120.1 32 _ _ rfl; omega)) (fun v134 e135 => ?_)
                have := R120.a (k := 34) rfl (x1 : Int32).toNatClampNeg
                refine mv_iadd d_TrustDeskModel_joins_212 ?_
                have b136 : (v132 + v134 : Int32).toInt = (v132.toInt + v134.toInt) := mz_add2 rfl rfl (by have := R120.1 32 _ _ rfl; omega) (by have := R120.1 32 _ _ rfl; omega)
                obtain ⟨v137, b138, _, _, _⟩ := mz_min9 99999 (v132 + v134)
                have : (99999 : Int32).toInt = 99999 := by decide
                refine mv_mmin (v := v137) d_TrustDeskModel_joins_213 (mj_in1 (List.mem_of_getElem? (i := 1992) (by decide +kernel)) rfl) (Nat.le_of_ble_eq_true rfl) b138 ?_
                refine tr_iastR (k := 34) I118 R120 (I118.up h_o0) q130 t_a131 (by decide) (by decide) (fun lo hi h => by cases h; have := R120.1 32 _ _ rfl; exact ⟨by show (0 : Int) ≤ v137.toInt; omega, by show v137.toInt ≤ (99999 : Int); omega⟩) (Or.inl (by decide)) d_TrustDeskModel_joins_216 (vp_in_iff.mpr (by have := R120.1 32 _ _ rfl; omega)) (fun M139 I140 K141 R142 E143 A144 V145 => ?_)
                have z146 := (V145 32).trans z124
                have z147 := (A144 43 (by decide) rfl x2.toNatClampNeg).trans z125
                have K148 : rC M139 o0 44 := K126.same (sA_a A144 (by decide +kernel)) (sF_a V145)
                have K149 : ∀ i : Nat, i ≠ x2.toNatClampNeg → ra M139 o0 43 i = ra M0 o0 43 i := (by have e9 := ((sA_a A144 (by decide +kernel)) : sA [43] _ _ _) 43 rfl; rw [e9]; exact K127)
                have K150 : sA [37] M0 M139 o0 := K128.trans (sA_a A144 (by decide +kernel))
                have K151 : sm (ra M139 o0 41) (12 * x2.toNatClampNeg) 12 = 1000000 ∧ ∀ i : Nat, ¬ (12 * x2.toNatClampNeg ≤ i ∧ (i : Int) < 12 * x2.toNatClampNeg + 12) → ra M139 o0 41 i = ra M0 o0 41 i := (by have e9 := ((sA_a A144 (by decide +kernel)) : sA [41] _ _ _) 41 rfl; rw [e9]; exact K129)
                clear z124 z125
                refine mv_aload_n d_TrustDeskModel_joins_217 rfl rfl ?_
                obtain ⟨a153, q152, t_a153⟩ := tm_atR I140 t97 (k := 36) rfl
                refine tr_getK q152 d_TrustDeskModel_joins_218 f_TrustDeskModel_76_13 ?_
                refine mv_iload_n d_TrustDeskModel_joins_221 rfl rfl ?_
                refine mv_dup2_11 d_TrustDeskModel_joins_222 rfl rfl ?_
                refine tr_ialdR (o := o0) (k := 36) I140 q152 t_a153 (by decide) d_TrustDeskModel_joins_223 (vp_in_iff.mpr (by have := R142.1 32 _ _ rfl; omega)) (fun v154 e155 => ?_)
                refine mv_aload_n d_TrustDeskModel_joins_224 rfl rfl ?_
                refine tr_getK (k := 36) q152 d_TrustDeskModel_joins_225 f_TrustDeskModel_76_13 ?_
                refine mv_iload_n d_TrustDeskModel_joins_228 rfl rfl ?_
                refine tr_ialdR (o := o0) (k := 36) I140 q152 t_a153 (by decide) d_TrustDeskModel_joins_229 (vp_in_iff.mpr (by have := R142.1 32 _ _ rfl; omega)) (fun v156 e157 => ?_)
                refine mv_iand d_TrustDeskModel_joins_230 ?_
                refine tr_iastR (k := 36) I140 R142 (I140.up h_o0) q152 t_a153 (by decide) (by decide) (fun lo hi h => by cases h) (Or.inl (by decide)) d_TrustDeskModel_joins_231 (vp_in_iff.mpr (by have := R142.1 32 _ _ rfl; omega)) (fun M158 I159 K160 R161 E162 A163 V164 => ?_)
                have z165 := (V164 32).trans z146
                have z166 := (A163 43 (by decide) rfl x2.toNatClampNeg).trans z147
                have K167 : rC M158 o0 44 := K148.same (sA_a A163 (by decide +kernel)) (sF_a V164)
                have K168 : ∀ i : Nat, i ≠ x2.toNatClampNeg → ra M158 o0 43 i = ra M0 o0 43 i := (by have e9 := ((sA_a A163 (by decide +kernel)) : sA [43] _ _ _) 43 rfl; rw [e9]; exact K149)
                have K169 : sA [37] M0 M158 o0 := K150.trans (sA_a A163 (by decide +kernel))
                have K170 : sm (ra M158 o0 41) (12 * x2.toNatClampNeg) 12 = 1000000 ∧ ∀ i : Nat, ¬ (12 * x2.toNatClampNeg ≤ i ∧ (i : Int) < 12 * x2.toNatClampNeg + 12) → ra M158 o0 41 i = ra M0 o0 41 i := (by have e9 := ((sA_a A163 (by decide +kernel)) : sA [41] _ _ _) 41 rfl; rw [e9]; exact K151)
                clear z146 z147
                refine mv_iconst (v := 0) d_TrustDeskModel_joins_232 (by decide) ?_
                refine mv_istore (lv' := [(9, .int 0), (8, .int i8_52), (7, .int i7_43), (5, .long v29), (3, .long v12), (0, .ref o0), (1, .int x1), (2, .int x2)]) d_TrustDeskModel_joins_233 (by decide) rfl ?_
                have L235_171 : ∀ (k : Nat) (i9_171 : Int32) (T_171 : tm_H) (M_171 : mj_M) (n_171 : Nat), tm_I tm_FT (tm_in w_TrustDeskModel_joins_x) x9 T0 M0 n0 T_171 M_171 n_171 → T_171 o0 = some (0, 13, 0) → 0 ≤ i9_171.toInt → rv M_171 o0 32 = rv M0 o0 32 → ra M0 o0 43 x2.toNatClampNeg ≤ ra M_171 o0 43 x2.toNatClampNeg → ra M_171 o0 43 x2.toNatClampNeg ≤ ra M0 o0 43 x2.toNatClampNeg + i9_171.toInt → i9_171.toInt ≤ ra M0 o0 43 x1.toNatClampNeg → (rI M_171 o0) → (rC M_171 o0 44) → (∀ i : Nat, i ≠ x2.toNatClampNeg → ra M_171 o0 43 i = ra M0 o0 43 i) → (sA [37] M0 M_171 o0) → (sm (ra M_171 o0 41) (12 * x2.toNatClampNeg) 12 = 1000000 ∧ ∀ i : Nat, ¬ (12 * x2.toNatClampNeg ≤ i ∧ (i : Int) < 12 * x2.toNatClampNeg + 12) → ra M_171 o0 41 i = ra M0 o0 41 i) → 2147483647 - i9_171.toInt < (k : Int) → mj_V g l kY_TrustDeskModel_joins (d + 3) 235 [(9, .int i9_171), (8, .int i8_52), (7, .int i7_43), (5, .long v29), (3, .long v12), (0, .ref o0), (1, .int x1), (2, .int x2)] [] M_171 n_171 0 0 (tm_Q tm_FT (tm_in w_TrustDeskModel_joins_x) x9 T0 M0 n0 (fun r _ M => r = none ∧ rI M o0 ∧ (rC M o0 44) ∧ (rP M o0) ∧ (rB M o0 12))) := by
                  intro k171
                  induction k171 with
                  | zero =>
                    intro i9_171 T_171 M_171 n_171 I_171 h_q0_171 iv0_171 iv1_171 iv2_171 iv3_171 iv4_171 kKR_171 kKC_171 kK43x_171 kKT37_171 kKPE_171 hk171
                    have := mz_hi i9_171
                    have := kKR_171.1 15 _ _ rfl
                    have := kKR_171.1 16 _ _ rfl
                    have := kKR_171.1 19 _ _ rfl
                    omega
                  | succ k171 ih171 =>
                    intro i9_171 T_171 M_171 n_171 I_171 h_q0_171 iv0_171 iv1_171 iv2_171 iv3_171 iv4_171 kKR_171 kKC_171 kK43x_171 kKT37_171 kKPE_171 hk171
                    have := kK43x_171 x1.toNatClampNeg (by omega)
                    refine mv_iload d_TrustDeskModel_joins_235 rfl ?_
                    refine mv_aload_n d_TrustDeskModel_joins_237 rfl rfl ?_
                    obtain ⟨a173, q172, t_a173⟩ := tm_atR I_171 h_q0_171 (k := 43) rfl
                    refine tr_getK q172 d_TrustDeskModel_joins_238 f_TrustDeskModel_98_13 ?_
                    refine mv_iload_n d_TrustDeskModel_joins_241 rfl rfl ?_
                    refine tr_ialdR (o := o0) (k := 43) I_171 q172 t_a173 (by decide) d_TrustDeskModel_joins_242 (vp_in_iff.mpr (by have := kKR_171.1 32 _ _ rfl; omega)) (fun v174 e175 => ?_)
                    have := kKR_171.a (k := 43) rfl (x1 : Int32).toNatClampNeg
                    have := mz_hi i9_171
                    have := mz_hi v174
                    refine mv_icmp_geZ (tgt := 320) (a := i9_171.toInt) (b := v174.toInt) d_TrustDeskModel_joins_243 (by decide) rfl rfl (fun b176 => ?_) (fun b176 => ?_)
                    · refine mv_aload_n d_TrustDeskModel_joins_320 rfl rfl ?_
                      obtain ⟨a178, q177, t_a178⟩ := tm_atR I_171 h_q0_171 (k := 35) rfl
                      refine tr_getK q177 d_TrustDeskModel_joins_321 f_TrustDeskModel_72_13 ?_
                      refine mv_iload_n d_TrustDeskModel_joins_324 rfl rfl ?_
                      refine mv_lconst (v := 0) d_TrustDeskModel_joins_325 (by decide) ?_
                      refine tr_lastR (k := 35) I_171 kKR_171 (I_171.up h_o0) q177 t_a178 (by decide) (by decide) (fun lo hi h => by cases h; have e9 : (0 : Int64).toInt = 0 := (by decide); exact ⟨by show (0 : Int) ≤ (0 : Int64).toInt; omega, by show (0 : Int64).toInt ≤ (1000000000000000 : Int); omega⟩) (Or.inl (by decide)) d_TrustDeskModel_joins_326 (vp_in_iff.mpr (by have := kKR_171.1 32 _ _ rfl; omega)) (fun M179 I180 K181 R182 E183 A184 V185 => ?_)
                      have z186 := (V185 32)
                      have z187 := (A184 43 (by decide) rfl x2.toNatClampNeg)
                      have K188 : rC M179 o0 44 := kKC_171.same (sA_a A184 (by decide +kernel)) (sF_a V185)
                      have K189 : ∀ i : Nat, i ≠ x2.toNatClampNeg → ra M179 o0 43 i = ra M0 o0 43 i := (by have e9 := ((sA_a A184 (by decide +kernel)) : sA [43] _ _ _) 43 rfl; rw [e9]; exact kK43x_171)
                      have K190 : sA [37] M0 M179 o0 := kKT37_171.trans (sA_a A184 (by decide +kernel))
                      have K191 : sm (ra M179 o0 41) (12 * x2.toNatClampNeg) 12 = 1000000 ∧ ∀ i : Nat, ¬ (12 * x2.toNatClampNeg ≤ i ∧ (i : Int) < 12 * x2.toNatClampNeg + 12) → ra M179 o0 41 i = ra M0 o0 41 i := (by have e9 := ((sA_a A184 (by decide +kernel)) : sA [41] _ _ _) 41 rfl; rw [e9]; exact kKPE_171)
                      refine mv_aload_n d_TrustDeskModel_joins_327 rfl rfl ?_
                      obtain ⟨a193, q192, t_a193⟩ := tm_atR I180 h_q0_171 (k := 33) rfl
                      refine tr_getK q192 d_TrustDeskModel_joins_328 f_TrustDeskModel_66_13 ?_
                      refine mv_iload_n d_TrustDeskModel_joins_331 rfl rfl ?_
                      refine mv_iconst (v := 0) d_TrustDeskModel_joins_332 (by decide) ?_
                      refine tr_iastR (k := 33) I180 R182 (I180.up h_o0) q192 t_a193 (by decide) (by decide) (fun lo hi h => by cases h; have e9 : (0 : Int32).toInt = 0 := (by decide); exact ⟨by show (0 : Int) ≤ (0 : Int32).toInt; omega, by show (0 : Int32).toInt ≤ (999 : Int); omega⟩) (Or.inl (by decide)) d_TrustDeskModel_joins_333 (vp_in_iff.mpr (by have := R182.1 32 _ _ rfl; omega)) (fun M194 I195 K196 R197 E198 A199 V200 => ?_)
                      have z201 := (V200 32).trans z186
                      have z202 := (A199 43 (by decide) rfl x2.toNatClampNeg).trans z187
                      have K203 : rC M194 o0 44 := K188.same (sA_a A199 (by decide +kernel)) (sF_a V200)
                      have K204 : ∀ i : Nat, i ≠ x2.toNatClampNeg → ra M194 o0 43 i = ra M0 o0 43 i := (by have e9 := ((sA_a A199 (by decide +kernel)) : sA [43] _ _ _) 43 rfl; rw [e9]; exact K189)
                      have K205 : sA [37] M0 M194 o0 := K190.trans (sA_a A199 (by decide +kernel))
                      have K206 : sm (ra M194 o0 41) (12 * x2.toNatClampNeg) 12 = 1000000 ∧ ∀ i : Nat, ¬ (12 * x2.toNatClampNeg ≤ i ∧ (i : Int) < 12 * x2.toNatClampNeg + 12) → ra M194 o0 41 i = ra M0 o0 41 i := (by have e9 := ((sA_a A199 (by decide +kernel)) : sA [41] _ _ _) 41 rfl; rw [e9]; exact K191)
                      clear z186 z187
                      refine mv_aload_n d_TrustDeskModel_joins_334 rfl rfl ?_
                      obtain ⟨a208, q207, t_a208⟩ := tm_atR I195 h_q0_171 (k := 34) rfl
                      refine tr_getK q207 d_TrustDeskModel_joins_335 f_TrustDeskModel_69_13 ?_
                      refine mv_iload_n d_TrustDeskModel_joins_338 rfl rfl ?_
                      refine mv_iconst (v := 0) d_TrustDeskModel_joins_339 (by decide) ?_
                      refine tr_iastR (k := 34) I195 R197 (I195.up h_o0) q207 t_a208 (by decide) (by decide) (fun lo hi h => by cases h; have e9 : (0 : Int32).toInt = 0 := (by decide); exact ⟨by show (0 : Int) ≤ (0 : Int32).toInt; omega, by show (0 : Int32).toInt ≤ (99999 : Int); omega⟩) (Or.inl (by decide)) d_TrustDeskModel_joins_340 (vp_in_iff.mpr (by have := R197.1 32 _ _ rfl; omega)) (fun M209 I210 K211 R212 E213 A214 V215 => ?_)
                      have z216 := (V215 32).trans z201
                      have z217 := (A214 43 (by decide) rfl x2.toNatClampNeg).trans z202
                      have K218 : rC M209 o0 44 := K203.same (sA_a A214 (by decide +kernel)) (sF_a V215)
                      have K219 : ∀ i : Nat, i ≠ x2.toNatClampNeg → ra M209 o0 43 i = ra M0 o0 43 i := (by have e9 := ((sA_a A214 (by decide +kernel)) : sA [43] _ _ _) 43 rfl; rw [e9]; exact K204)
                      have K220 : sA [37] M0 M209 o0 := K205.trans (sA_a A214 (by decide +kernel))
                      have K221 : sm (ra M209 o0 41) (12 * x2.toNatClampNeg) 12 = 1000000 ∧ ∀ i : Nat, ¬ (12 * x2.toNatClampNeg ≤ i ∧ (i : Int) < 12 * x2.toNatClampNeg + 12) → ra M209 o0 41 i = ra M0 o0 41 i := (by have e9 := ((sA_a A214 (by decide +kernel)) : sA [41] _ _ _) 41 rfl; rw [e9]; exact K206)
                      clear z201 z202
                      refine mv_aload_n d_TrustDeskModel_joins_341 rfl rfl ?_
                      obtain ⟨a223, q222, t_a223⟩ := tm_atR I210 h_q0_171 (k := 37) rfl
                      refine tr_getK q222 d_TrustDeskModel_joins_342 f_TrustDeskModel_79_13 ?_
                      refine mv_iload_n d_TrustDeskModel_joins_345 rfl rfl ?_
                      refine mv_iload_n d_TrustDeskModel_joins_346 rfl rfl ?_
                      refine tr_iastR (k := 37) I210 R212 (I210.up h_o0) q222 t_a223 (by decide) (by decide) (fun lo hi h => by cases h; have := R212.1 32 _ _ rfl; exact ⟨by show ((-1) : Int) ≤ x2.toInt; omega, by show x2.toInt ≤ (11 : Int); omega⟩) (Or.inl (by decide)) d_TrustDeskModel_joins_347 (vp_in_iff.mpr (by have := R212.1 32 _ _ rfl; omega)) (fun M224 I225 K226 R227 E228 A229 V230 => ?_)
                      have z231 := (V230 32).trans z216
                      have z232 := (A229 43 (by decide) rfl x2.toNatClampNeg).trans z217
                      have K233 : rC M224 o0 44 := K218.same (sA_a A229 (by decide +kernel)) (sF_a V230)
                      have K234 : ∀ i : Nat, i ≠ x2.toNatClampNeg → ra M224 o0 43 i = ra M0 o0 43 i := (by have e9 := ((sA_a A229 (by decide +kernel)) : sA [43] _ _ _) 43 rfl; rw [e9]; exact K219)
                      have K235 : sm (ra M224 o0 41) (12 * x2.toNatClampNeg) 12 = 1000000 ∧ ∀ i : Nat, ¬ (12 * x2.toNatClampNeg ≤ i ∧ (i : Int) < 12 * x2.toNatClampNeg + 12) → ra M224 o0 41 i = ra M0 o0 41 i := (by have e9 := ((sA_a A229 (by decide +kernel)) : sA [41] _ _ _) 41 rfl; rw [e9]; exact K221)
                      have h236 := rPB.join (M := M224) (X := x2.toNatClampNeg) (F := x1.toNatClampNeg) (x9 := x2.toInt) yP yB ⟨by omega, by omega, yfx.2.2.2.2.2.2⟩ ⟨by omega, by omega, yfx.2.2.2.2.2.1⟩ (by omega) (fun i hi => (A229 43 (by decide) rfl i).trans (K219 i hi)) (by omega) (fun i => (E228 i).trans (by rw [K220 37 rfl])) (by omega) (fun i hi => (A229 41 (by decide) rfl i).trans (K221.2 i hi)) (by rw [show ra M224 o0 41 = ra M209 o0 41 from funext fun i => A229 41 (by decide) rfl i]; exact K221.1) (by omega)
                      have K237 : rP M224 o0 := h236.1
                      have K238 : rB M224 o0 12 := h236.2
                      clear z216 z217
                      refine mv_iconst (v := 0) d_TrustDeskModel_joins_348 (by decide) ?_
                      refine mv_istore (lv' := [(9, .int 0), (8, .int i8_52), (7, .int i7_43), (5, .long v29), (3, .long v12), (0, .ref o0), (1, .int x1), (2, .int x2)]) d_TrustDeskModel_joins_349 (by decide) rfl ?_
                      have L351_239 : ∀ (k : Nat) (i9_239 : Int32) (T_239 : tm_H) (M_239 : mj_M) (n_239 : Nat), tm_I tm_FT (tm_in w_TrustDeskModel_joins_x) x9 T0 M0 n0 T_239 M_239 n_239 → T_239 o0 = some (0, 13, 0) → 0 ≤ i9_239.toInt → rv M_239 o0 32 = rv M0 o0 32 → (rI M_239 o0) → (rC M_239 o0 44) → (rP M_239 o0) → (rB M_239 o0 12) → 2147483647 - i9_239.toInt < (k : Int) → mj_V g l kY_TrustDeskModel_joins (d + 3) 351 [(9, .int i9_239), (8, .int i8_52), (7, .int i7_43), (5, .long v29), (3, .long v12), (0, .ref o0), (1, .int x1), (2, .int x2)] [] M_239 n_239 0 0 (tm_Q tm_FT (tm_in w_TrustDeskModel_joins_x) x9 T0 M0 n0 (fun r _ M => r = none ∧ rI M o0 ∧ (rC M o0 44) ∧ (rP M o0) ∧ (rB M o0 12))) := by
                        intro k239
                        induction k239 with
                        | zero =>
                          intro i9_239 T_239 M_239 n_239 I_239 h_q0_239 iv0_239 iv1_239 kKR_239 kKC_239 kKP_239 kKB_239 hk239
                          have := mz_hi i9_239
                          have := kKR_239.1 15 _ _ rfl
                          have := kKR_239.1 16 _ _ rfl
                          have := kKR_239.1 19 _ _ rfl
                          omega
                        | succ k239 ih239 =>
                          intro i9_239 T_239 M_239 n_239 I_239 h_q0_239 iv0_239 iv1_239 kKR_239 kKC_239 kKP_239 kKB_239 hk239
                          refine mv_iload d_TrustDeskModel_joins_351 rfl ?_
                          refine mv_bipush (v := 100) d_TrustDeskModel_joins_353 (by decide) ?_
                          have := mz_hi i9_239
                          refine mv_icmp_geZ (tgt := 377) (a := i9_239.toInt) (b := 100) d_TrustDeskModel_joins_355 (by decide) rfl (by decide) (fun b240 => ?_) (fun b240 => ?_)
                          · exact mv_vret d_TrustDeskModel_joins_377 rfl ⟨_, I_239, rfl, kKR_239, kKC_239, kKP_239, kKB_239⟩
                          · refine mv_aload_n d_TrustDeskModel_joins_358 rfl rfl ?_
                            obtain ⟨a242, q241, t_a242⟩ := tm_atR I_239 h_q0_239 (k := 40) rfl
                            refine tr_getK q241 d_TrustDeskModel_joins_359 f_TrustDeskModel_88_13 ?_
                            refine mv_bipush (v := 100) d_TrustDeskModel_joins_362 (by decide) ?_
                            refine mv_iload_n d_TrustDeskModel_joins_364 rfl rfl ?_
                            refine mv_imul d_TrustDeskModel_joins_365 ?_
                            refine mv_iload d_TrustDeskModel_joins_366 rfl ?_
                            refine mv_iadd d_TrustDeskModel_joins_368 ?_
                            refine mv_iconst (v := 0) d_TrustDeskModel_joins_369 (by decide) ?_
                            have b243 : (100 * x1 : Int32).toInt = (100 * x1.toInt) := mz_mul2 (by decide) rfl (by have := kKR_239.1 32 _ _ rfl; omega) (by have := kKR_239.1 32 _ _ rfl; omega)
                            have b244 : ((100 * x1) + i9_239 : Int32).toInt = ((100 * x1.toInt) + i9_239.toInt) := mz_add2 b243 rfl (by have := kKR_239.1 32 _ _ rfl; omega) (by have := kKR_239.1 32 _ _ rfl; omega)
                            refine tr_zastR (k := 40) I_239 kKR_239 (I_239.up h_o0) q241 t_a242 (by decide) (by decide) rfl (Or.inl (by decide)) d_TrustDeskModel_joins_370 (vp_in_iff.mpr (by have := kKR_239.1 32 _ _ rfl; omega)) (fun M245 I246 K247 R248 A250 V251 => ?_)
                            have z252 := (V251 32)
                            have z253 := (A250 43 (by decide) rfl x2.toNatClampNeg)
                            have K254 : rC M245 o0 44 := kKC_239.same (sA_a A250 (by decide +kernel)) (sF_a V251)
                            have K255 : rP M245 o0 := kKP_239.same (sA_a A250 (by decide +kernel)) (sF_a V251)
                            have K256 : rB M245 o0 12 := kKB_239.same (sA_a A250 (by decide +kernel)) (sF_a V251)
                            refine mv_iinc (v := (i9_239 + 1)) (lv' := [(9, .int (i9_239 + 1)), (8, .int i8_52), (7, .int i7_43), (5, .long v29), (3, .long v12), (0, .ref o0), (1, .int x1), (2, .int x2)]) d_TrustDeskModel_joins_371 rfl rfl (by decide) rfl ?_
                            refine mv_goto (tgt := 351) d_TrustDeskModel_joins_374 (by decide) ?_
                            have b257 : (i9_239 + 1 : Int32).toInt = (i9_239.toInt + 1) := mz_add2 rfl (by decide) (by have := R248.1 32 _ _ rfl; omega) (by have := R248.1 32 _ _ rfl; omega)
                            have b258 : (i9_239 + 1).toInt = i9_239.toInt + 1 := mz_addn 1 1 (by decide) (by have := mz_lo i9_239; omega) (by have := mz_hi i9_239; omega)
                            exact (ih239 (i9_239 + 1) T_239 M245 n_239 I246 h_q0_239 (by have := R248.1 32 _ _ rfl; first | omega | decide | exact fun h9 => absurd (by decide) h9) (by have := R248.1 32 _ _ rfl; first | omega | decide | exact fun h9 => absurd (by decide) h9) R248 K254 K255 K256 (by have := R248.1 32 _ _ rfl; omega))
                      have : (0 : Int32).toInt = 0 := by decide
                      exact mv_less (Nat.zero_le _) (Nat.zero_le _) (L351_239 4294967296 0 T_171 M224 n_171 I225 h_q0_171 (by have := R227.1 32 _ _ rfl; first | omega | decide | exact fun h9 => absurd (by decide) h9) (by have := R227.1 32 _ _ rfl; first | omega | decide | exact fun h9 => absurd (by decide) h9) R227 K233 K237 K238 (by show (2147483647 - (0 : Int) : Int) < _; decide))
                    · refine mv_bipush (v := 80) d_TrustDeskModel_joins_246 (by decide) ?_
                      refine mv_iload_n d_TrustDeskModel_joins_248 rfl rfl ?_
                      refine mv_imul d_TrustDeskModel_joins_249 ?_
                      refine mv_iload d_TrustDeskModel_joins_250 rfl ?_
                      refine mv_iadd d_TrustDeskModel_joins_252 ?_
                      refine mv_istore (lv' := [(10, .int ((80 * x1) + i9_171)), (9, .int i9_171), (8, .int i8_52), (7, .int i7_43), (5, .long v29), (3, .long v12), (0, .ref o0), (1, .int x1), (2, .int x2)]) d_TrustDeskModel_joins_253 (by decide) rfl ?_
                      refine mv_aload_n d_TrustDeskModel_joins_255 rfl rfl ?_
                      obtain ⟨a260, q259, t_a260⟩ := tm_atR I_171 h_q0_171 (k := 46) rfl
                      refine tr_getK q259 d_TrustDeskModel_joins_256 f_TrustDeskModel_107_13 ?_
                      refine mv_iload d_TrustDeskModel_joins_259 rfl ?_
                      have b261 : (80 * x1 : Int32).toInt = (80 * x1.toInt) := mz_mul2 (by decide) rfl (by have := kKR_171.1 32 _ _ rfl; omega) (by have := kKR_171.1 32 _ _ rfl; omega)
                      have b262 : ((80 * x1) + i9_171 : Int32).toInt = ((80 * x1.toInt) + i9_171.toInt) := mz_add2 b261 rfl (by have := kKR_171.1 32 _ _ rfl; omega) (by have := kKR_171.1 32 _ _ rfl; omega)
                      refine tr_ialdR (o := o0) (k := 46) I_171 q259 t_a260 (by decide) d_TrustDeskModel_joins_261 (vp_in_iff.mpr (by have := kKR_171.1 32 _ _ rfl; omega)) (fun v263 e264 => ?_)
                      refine mv_iconst (v := 2) d_TrustDeskModel_joins_262 (by decide) ?_
                      have := mz_hi v263
                      refine mv_icmp_eqZ (tgt := 306) (a := v263.toInt) (b := 2) d_TrustDeskModel_joins_263 (by decide) rfl (by decide) (fun b265 => ?_) (fun b265 => ?_)
                      · refine mv_aload_n d_TrustDeskModel_joins_306 rfl rfl ?_
                        refine tr_getK (k := 46) q259 d_TrustDeskModel_joins_307 f_TrustDeskModel_107_13 ?_
                        refine mv_iload d_TrustDeskModel_joins_310 rfl ?_
                        refine mv_iconst (v := 2) d_TrustDeskModel_joins_312 (by decide) ?_
                        have b266 : (80 * x1 : Int32).toInt = (80 * x1.toInt) := mz_mul2 (by decide) rfl (by have := kKR_171.1 32 _ _ rfl; omega) (by have := kKR_171.1 32 _ _ rfl; omega)
                        have b267 : ((80 * x1) + i9_171 : Int32).toInt = ((80 * x1.toInt) + i9_171.toInt) := mz_add2 b266 rfl (by have := kKR_171.1 32 _ _ rfl; omega) (by have := kKR_171.1 32 _ _ rfl; omega)
                        refine tr_iastR (k := 46) I_171 kKR_171 (I_171.up h_o0) q259 t_a260 (by decide) (by decide) (fun lo hi h => by cases h) (Or.inl (by decide)) d_TrustDeskModel_joins_313 (vp_in_iff.mpr (by have := kKR_171.1 32 _ _ rfl; omega)) (fun M268 I269 K270 R271 E272 A273 V274 => ?_)
                        have z275 := (V274 32)
                        have z276 := (A273 43 (by decide) rfl x2.toNatClampNeg)
                        have K277 : rC M268 o0 44 := kKC_171.same (sA_a A273 (by decide +kernel)) (sF_a V274)
                        have K278 : ∀ i : Nat, i ≠ x2.toNatClampNeg → ra M268 o0 43 i = ra M0 o0 43 i := (by have e9 := ((sA_a A273 (by decide +kernel)) : sA [43] _ _ _) 43 rfl; rw [e9]; exact kK43x_171)
                        have K279 : sA [37] M0 M268 o0 := kKT37_171.trans (sA_a A273 (by decide +kernel))
                        have K280 : sm (ra M268 o0 41) (12 * x2.toNatClampNeg) 12 = 1000000 ∧ ∀ i : Nat, ¬ (12 * x2.toNatClampNeg ≤ i ∧ (i : Int) < 12 * x2.toNatClampNeg + 12) → ra M268 o0 41 i = ra M0 o0 41 i := (by have e9 := ((sA_a A273 (by decide +kernel)) : sA [41] _ _ _) 41 rfl; rw [e9]; exact kKPE_171)
                        refine mv_iinc (v := (i9_171 + 1)) (lv' := [(9, .int (i9_171 + 1)), (10, .int ((80 * x1) + i9_171)), (8, .int i8_52), (7, .int i7_43), (5, .long v29), (3, .long v12), (0, .ref o0), (1, .int x1), (2, .int x2)]) d_TrustDeskModel_joins_314 rfl rfl (by decide) rfl ?_
                        refine mv_goto (tgt := 235) d_TrustDeskModel_joins_317 (by decide) ?_
                        have b281 : (i9_171 + 1 : Int32).toInt = (i9_171.toInt + 1) := mz_add2 rfl (by decide) (by have := R271.1 32 _ _ rfl; omega) (by have := R271.1 32 _ _ rfl; omega)
                        refine mv_locals (lv' := [(9, .int (i9_171 + 1)), (8, .int i8_52), (7, .int i7_43), (5, .long v29), (3, .long v12), (0, .ref o0), (1, .int x1), (2, .int x2)]) (by intro q hq; simp only [List.mem_cons, List.not_mem_nil, or_false] at hq; rcases hq with rfl | rfl | rfl | rfl | rfl | rfl | rfl | rfl <;> rfl) ?_
                        have b282 : (i9_171 + 1).toInt = i9_171.toInt + 1 := mz_addn 1 1 (by decide) (by have := mz_lo i9_171; omega) (by have := mz_hi i9_171; omega)
                        exact (ih171 (i9_171 + 1) T_171 M268 n_171 I269 h_q0_171 (by have := R271.1 32 _ _ rfl; first | omega | decide | exact fun h9 => absurd (by decide) h9) (by have := R271.1 32 _ _ rfl; first | omega | decide | exact fun h9 => absurd (by decide) h9) (by have := R271.1 32 _ _ rfl; first | omega | decide | exact fun h9 => absurd (by decide) h9) (by have := R271.1 32 _ _ rfl; first | omega | decide | exact fun h9 => absurd (by decide) h9) (by have := R271.1 32 _ _ rfl; first | omega | decide | exact fun h9 => absurd (by decide) h9) R271 K277 K278 K279 K280 (by have := R271.1 32 _ _ rfl; omega))
                      · refine mv_aload_n d_TrustDeskModel_joins_266 rfl rfl ?_
                        refine mv_iload_n d_TrustDeskModel_joins_267 rfl rfl ?_
                        refine mv_aload_n d_TrustDeskModel_joins_268 rfl rfl ?_
                        obtain ⟨a284, q283, t_a284⟩ := tm_atR I_171 h_q0_171 (k := 44) rfl
                        refine tr_getK q283 d_TrustDeskModel_joins_269 f_TrustDeskModel_101_13 ?_
                        refine mv_iload d_TrustDeskModel_joins_272 rfl ?_
                        have b285 : (80 * x1 : Int32).toInt = (80 * x1.toInt) := mz_mul2 (by decide) rfl (by have := kKR_171.1 32 _ _ rfl; omega) (by have := kKR_171.1 32 _ _ rfl; omega)
                        have b286 : ((80 * x1) + i9_171 : Int32).toInt = ((80 * x1.toInt) + i9_171.toInt) := mz_add2 b285 rfl (by have := kKR_171.1 32 _ _ rfl; omega) (by have := kKR_171.1 32 _ _ rfl; omega)
                        refine tr_ialdR (o := o0) (k := 44) I_171 q283 t_a284 (by decide) d_TrustDeskModel_joins_274 (vp_in_iff.mpr (by have := kKR_171.1 32 _ _ rfl; omega)) (fun v287 e288 => ?_)
                        have := kKR_171.a (k := 44) rfl (((80 * x1) + i9_171) : Int32).toNatClampNeg
                        refine mv_aload_n d_TrustDeskModel_joins_275 rfl rfl ?_
                        obtain ⟨a290, q289, t_a290⟩ := tm_atR I_171 h_q0_171 (k := 45) rfl
                        refine tr_getK q289 d_TrustDeskModel_joins_276 f_TrustDeskModel_104_13 ?_
                        refine mv_iload d_TrustDeskModel_joins_279 rfl ?_
                        have b291 : (80 * x1 : Int32).toInt = (80 * x1.toInt) := mz_mul2 (by decide) rfl (by have := kKR_171.1 32 _ _ rfl; omega) (by have := kKR_171.1 32 _ _ rfl; omega)
                        have b292 : ((80 * x1) + i9_171 : Int32).toInt = ((80 * x1.toInt) + i9_171.toInt) := mz_add2 b291 rfl (by have := kKR_171.1 32 _ _ rfl; omega) (by have := kKR_171.1 32 _ _ rfl; omega)
                        refine tr_ialdR (o := o0) (k := 45) I_171 q289 t_a290 (by decide) d_TrustDeskModel_joins_281 (vp_in_iff.mpr (by have := kKR_171.1 32 _ _ rfl; omega)) (fun v293 e294 => ?_)
                        have := kKR_171.a (k := 45) rfl (((80 * x1) + i9_171) : Int32).toNatClampNeg
                        refine mv_aload_n d_TrustDeskModel_joins_282 rfl rfl ?_
                        refine tr_getK (k := 46) q259 d_TrustDeskModel_joins_283 f_TrustDeskModel_107_13 ?_
                        refine mv_iload d_TrustDeskModel_joins_286 rfl ?_
                        have b295 : (80 * x1 : Int32).toInt = (80 * x1.toInt) := mz_mul2 (by decide) rfl (by have := kKR_171.1 32 _ _ rfl; omega) (by have := kKR_171.1 32 _ _ rfl; omega)
                        have b296 : ((80 * x1) + i9_171 : Int32).toInt = ((80 * x1.toInt) + i9_171.toInt) := mz_add2 b295 rfl (by have := kKR_171.1 32 _ _ rfl; omega) (by have := kKR_171.1 32 _ _ rfl; omega)
                        refine tr_ialdR (o := o0) (k := 46) I_171 q259 t_a260 (by decide) d_TrustDeskModel_joins_288 (vp_in_iff.mpr (by have := kKR_171.1 32 _ _ rfl; omega)) (fun v297 e298 => ?_)
                        refine mv_aload_n d_TrustDeskModel_joins_289 rfl rfl ?_
                        obtain ⟨a300, q299, t_a300⟩ := tm_atR I_171 h_q0_171 (k := 47) rfl
                        refine tr_getK q299 d_TrustDeskModel_joins_290 f_TrustDeskModel_110_13 ?_
                        refine mv_iload d_TrustDeskModel_joins_293 rfl ?_
                        have b301 : (80 * x1 : Int32).toInt = (80 * x1.toInt) := mz_mul2 (by decide) rfl (by have := kKR_171.1 32 _ _ rfl; omega) (by have := kKR_171.1 32 _ _ rfl; omega)
                        have b302 : ((80 * x1) + i9_171 : Int32).toInt = ((80 * x1.toInt) + i9_171.toInt) := mz_add2 b301 rfl (by have := kKR_171.1 32 _ _ rfl; omega) (by have := kKR_171.1 32 _ _ rfl; omega)
                        refine tr_ialdR (o := o0) (k := 47) I_171 q299 t_a300 (by decide) d_TrustDeskModel_joins_295 (vp_in_iff.mpr (by have := kKR_171.1 32 _ _ rfl; omega)) (fun v303 e304 => ?_)
                        refine mv_aload_n d_TrustDeskModel_joins_296 rfl rfl ?_
                        obtain ⟨a306, q305, t_a306⟩ := tm_atR I_171 h_q0_171 (k := 48) rfl
                        refine tr_getK q305 d_TrustDeskModel_joins_297 f_TrustDeskModel_113_13 ?_
                        refine mv_iload d_TrustDeskModel_joins_300 rfl ?_
                        have b307 : (80 * x1 : Int32).toInt = (80 * x1.toInt) := mz_mul2 (by decide) rfl (by have := kKR_171.1 32 _ _ rfl; omega) (by have := kKR_171.1 32 _ _ rfl; omega)
                        have b308 : ((80 * x1) + i9_171 : Int32).toInt = ((80 * x1.toInt) + i9_171.toInt) := mz_add2 b307 rfl (by have := kKR_171.1 32 _ _ rfl; omega) (by have := kKR_171.1 32 _ _ rfl; omega)
                        refine tr_ialdR (o := o0) (k := 48) I_171 q305 t_a306 (by decide) d_TrustDeskModel_joins_302 (vp_in_iff.mpr (by have := kKR_171.1 32 _ _ rfl; omega)) (fun v309 e310 => ?_)
                        obtain ⟨_, b317, -⟩ := I_171.1 _ _ h_q0_171
                        refine mv_callV (kc' := 0) (ks' := 0) (As := [.int x2, .int v287, .int v293, .int v297, .int v303, .int v309]) (st9 := [.int v309, .int v303, .int v297, .int v293, .int v287, .int x2, .ref o0]) d_TrustDeskModel_joins_303 lV_TrustDeskModel_428 b317 rfl (tc_TrustDeskModel_addEnd_x (d := (d + 2)) (x9 := x9) (o0 := o0) (x1 := x2) (x2 := v287) (x3 := v293) (x4 := v297) (x5 := v303) (x6 := v309) h_q0_171 (by have := kKR_171.1 32 _ _ rfl; omega) (by have := kKR_171.1 32 _ _ rfl; omega) (by have := kKR_171.1 32 _ _ rfl; omega) kKR_171 (by have := kKR_171.1 32 _ _ rfl; omega) I_171.start) rfl (Nat.le_of_ble_eq_true rfl) (Nat.le_of_ble_eq_true rfl) (Nat.le_of_ble_eq_true rfl) (hst := rfl) (fun b311r M312 n313 b311 => ?_)
                        obtain ⟨T314, J315, rfl, R318, f319⟩ := b311
                        have I316 := I_171.call J315 (tm_sub (by decide)) (Or.inl rfl)
                        have t320 := J315.up h_q0_171
                        have z321 := (rv_c I_171 J315 (I_171.up h_o0) (k := 32) rfl)
                        obtain ⟨j322, h323, h324, h325⟩ := kKC_171.2.2.2.2 x1.toNatClampNeg i9_171.toInt.toNat (by have := mz_nat9 (i := x1) (by have := kKR_171.1 32 _ _ rfl; omega); omega) (by have := mz_nat9 (i := x1) (by have := kKR_171.1 32 _ _ rfl; omega); have := kKR_171.1 32 _ _ rfl; omega)
                        have h326 : 80 * x1.toNatClampNeg + i9_171.toInt.toNat = ((80 * x1) + i9_171).toNatClampNeg := by have := mz_nat9 (i := ((80 * x1) + i9_171)) (by have := kKR_171.1 32 _ _ rfl; omega); have := mz_nat9 (i := x1) (by have := kKR_171.1 32 _ _ rfl; omega); have := kKR_171.1 32 _ _ rfl; omega
                        rw [h326, ← e294] at h324 h325
                        rw [← e288] at h324
                        have K327 : rC M312 o0 44 := kKC_171.add kKR_171 f319 (by have := mz_nat9 (i := x2) (by have := kKR_171.1 32 _ _ rfl; omega); omega) j322 h323 h324 h325 (sA_c I_171 J315 (I_171.up h_o0) (by decide)) (sF_c I_171 J315 (I_171.up h_o0) (by decide))
                        have K328 : ∀ i : Nat, i ≠ x2.toNatClampNeg → ra M312 o0 43 i = ra M0 o0 43 i := fun i hi => by rw [f319.2.2 i, if_neg hi]; exact kK43x_171 i hi
                        have K329 : sA [37] M0 M312 o0 := kKT37_171.trans (sA_c I_171 J315 (I_171.up h_o0) (by decide +kernel))
                        have K330 : sm (ra M312 o0 41) (12 * x2.toNatClampNeg) 12 = 1000000 ∧ ∀ i : Nat, ¬ (12 * x2.toNatClampNeg ≤ i ∧ (i : Int) < 12 * x2.toNatClampNeg + 12) → ra M312 o0 41 i = ra M0 o0 41 i := (by have e9 := ((sA_c I_171 J315 (I_171.up h_o0) (by decide +kernel)) : sA [41] _ _ _) 41 rfl; rw [e9]; exact kKPE_171)
                        have := f319.2.2 x2.toNatClampNeg
                        rw [if_pos rfl] at this
                        have q331 := J315.keep h_q0_171 (by decide) q172
                        have t332 := J315.up t_a173
                        have q333 := J315.keep h_q0_171 (by decide) q259
                        have t334 := J315.up t_a260
                        have q335 := J315.keep h_q0_171 (by decide) q283
                        have t336 := J315.up t_a284
                        have q337 := J315.keep h_q0_171 (by decide) q289
                        have t338 := J315.up t_a290
                        have q339 := J315.keep h_q0_171 (by decide) q299
                        have t340 := J315.up t_a300
                        have q341 := J315.keep h_q0_171 (by decide) q305
                        have t342 := J315.up t_a306
                        refine mv_aload_n d_TrustDeskModel_joins_306 rfl rfl ?_
                        refine tr_getK (k := 46) q333 d_TrustDeskModel_joins_307 f_TrustDeskModel_107_13 ?_
                        refine mv_iload d_TrustDeskModel_joins_310 rfl ?_
                        refine mv_iconst (v := 2) d_TrustDeskModel_joins_312 (by decide) ?_
                        have b343 : (80 * x1 : Int32).toInt = (80 * x1.toInt) := mz_mul2 (by decide) rfl (by have := R318.1 32 _ _ rfl; omega) (by have := R318.1 32 _ _ rfl; omega)
                        have b344 : ((80 * x1) + i9_171 : Int32).toInt = ((80 * x1.toInt) + i9_171.toInt) := mz_add2 b343 rfl (by have := R318.1 32 _ _ rfl; omega) (by have := R318.1 32 _ _ rfl; omega)
                        refine tr_iastR (k := 46) I316 R318 (I316.up h_o0) q333 t334 (by decide) (by decide) (fun lo hi h => by cases h) (Or.inl (by decide)) d_TrustDeskModel_joins_313 (vp_in_iff.mpr (by have := R318.1 32 _ _ rfl; omega)) (fun M345 I346 K347 R348 E349 A350 V351 => ?_)
                        have z352 := (V351 32).trans z321
                        have z353 := (A350 43 (by decide) rfl x2.toNatClampNeg)
                        have K354 : rC M345 o0 44 := K327.same (sA_a A350 (by decide +kernel)) (sF_a V351)
                        have K355 : ∀ i : Nat, i ≠ x2.toNatClampNeg → ra M345 o0 43 i = ra M0 o0 43 i := (by have e9 := ((sA_a A350 (by decide +kernel)) : sA [43] _ _ _) 43 rfl; rw [e9]; exact K328)
                        have K356 : sA [37] M0 M345 o0 := K329.trans (sA_a A350 (by decide +kernel))
                        have K357 : sm (ra M345 o0 41) (12 * x2.toNatClampNeg) 12 = 1000000 ∧ ∀ i : Nat, ¬ (12 * x2.toNatClampNeg ≤ i ∧ (i : Int) < 12 * x2.toNatClampNeg + 12) → ra M345 o0 41 i = ra M0 o0 41 i := (by have e9 := ((sA_a A350 (by decide +kernel)) : sA [41] _ _ _) 41 rfl; rw [e9]; exact K330)
                        clear z321
                        refine mv_iinc (v := (i9_171 + 1)) (lv' := [(9, .int (i9_171 + 1)), (10, .int ((80 * x1) + i9_171)), (8, .int i8_52), (7, .int i7_43), (5, .long v29), (3, .long v12), (0, .ref o0), (1, .int x1), (2, .int x2)]) d_TrustDeskModel_joins_314 rfl rfl (by decide) rfl ?_
                        refine mv_goto (tgt := 235) d_TrustDeskModel_joins_317 (by decide) ?_
                        have b358 : (i9_171 + 1 : Int32).toInt = (i9_171.toInt + 1) := mz_add2 rfl (by decide) (by have := R348.1 32 _ _ rfl; omega) (by have := R348.1 32 _ _ rfl; omega)
                        refine mv_locals (lv' := [(9, .int (i9_171 + 1)), (8, .int i8_52), (7, .int i7_43), (5, .long v29), (3, .long v12), (0, .ref o0), (1, .int x1), (2, .int x2)]) (by intro q hq; simp only [List.mem_cons, List.not_mem_nil, or_false] at hq; rcases hq with rfl | rfl | rfl | rfl | rfl | rfl | rfl | rfl <;> rfl) ?_
                        have b359 : (i9_171 + 1).toInt = i9_171.toInt + 1 := mz_addn 1 1 (by decide) (by have := mz_lo i9_171; omega) (by have := mz_hi i9_171; omega)
                        exact (ih171 (i9_171 + 1) T314 M345 n313 I346 t320 (by have := R348.1 32 _ _ rfl; first | omega | decide | exact fun h9 => absurd (by decide) h9) (by have := R348.1 32 _ _ rfl; first | omega | decide | exact fun h9 => absurd (by decide) h9) (by have := R348.1 32 _ _ rfl; first | omega | decide | exact fun h9 => absurd (by decide) h9) (by have := R348.1 32 _ _ rfl; first | omega | decide | exact fun h9 => absurd (by decide) h9) (by have := R348.1 32 _ _ rfl; first | omega | decide | exact fun h9 => absurd (by decide) h9) R348 K354 K355 K356 K357 (by have := R348.1 32 _ _ rfl; omega))
                have : (0 : Int32).toInt = 0 := by decide
                exact mv_less (Nat.zero_le _) (Nat.zero_le _) (L235_171 4294967296 0 T92 M158 n91 I159 t97 (by have := R161.1 32 _ _ rfl; first | omega | decide | exact fun h9 => absurd (by decide) h9) (by have := R161.1 32 _ _ rfl; first | omega | decide | exact fun h9 => absurd (by decide) h9) (by have := R161.1 32 _ _ rfl; first | omega | decide | exact fun h9 => absurd (by decide) h9) (by have := R161.1 32 _ _ rfl; first | omega | decide | exact fun h9 => absurd (by decide) h9) (by have := R161.1 32 _ _ rfl; first | omega | decide | exact fun h9 => absurd (by decide) h9) R161 K167 K168 K169 K170 (by show (2147483647 - (0 : Int) : Int) < _; decide))
              · refine mv_iinc (v := (i8_52 + 1)) (lv' := [(8, .int (i8_52 + 1)), (7, .int i7_43), (5, .long v29), (3, .long v12), (0, .ref o0), (1, .int x1), (2, .int x2)]) d_TrustDeskModel_joins_133 rfl rfl (by decide) rfl ?_
                refine mv_goto (tgt := 118) d_TrustDeskModel_joins_136 (by decide) ?_
                have b360 : (i8_52 + 1 : Int32).toInt = (i8_52.toInt + 1) := mz_add2 rfl (by decide) (by have := kKR_52.1 32 _ _ rfl; omega) (by have := kKR_52.1 32 _ _ rfl; omega)
                have b361 : (i8_52 + 1 : Int32).toInt = (i8_52.toInt + 1) := mz_add2 rfl (by decide) (by have := kKR_52.1 32 _ _ rfl; omega) (by have := kKR_52.1 32 _ _ rfl; omega)
                have b362 : (i8_52 + 1).toInt = i8_52.toInt + 1 := mz_addn 1 1 (by decide) (by have := mz_lo i8_52; omega) (by have := mz_hi i8_52; omega)
                exact (ih52 (i8_52 + 1) T_52 M_52 n_52 I_52 h_q0_52 (by have := kKR_52.1 32 _ _ rfl; first | omega | decide | exact fun h9 => absurd (by decide) h9) (by have := kKR_52.1 32 _ _ rfl; first | omega | decide | exact fun h9 => absurd (by decide) h9) (by have := kKR_52.1 32 _ _ rfl; first | omega | decide | exact fun h9 => absurd (by decide) h9) (by have := kKR_52.1 32 _ _ rfl; first | omega | decide | exact fun h9 => absurd (by decide) h9) kKR_52 kKC_52 kK43x_52 kKT37_52 kKPJ_52 kKPS_52 kKJ0_52 (by have := kKR_52.1 32 _ _ rfl; omega))
          have : (0 : Int32).toInt = 0 := by decide
          exact mv_less (Nat.zero_le _) (Nat.zero_le _) (L118_52 4294967296 0 T_43 M_43 n_43 I_43 h_q0_43 (by have := kKR_43.1 32 _ _ rfl; first | omega | decide | exact fun h9 => absurd (by decide) h9) (by have := kKR_43.1 32 _ _ rfl; first | omega | decide | exact fun h9 => absurd (by decide) h9) (by have := kKR_43.1 32 _ _ rfl; first | omega | decide | exact fun h9 => absurd (by decide) h9) (by have := kKR_43.1 32 _ _ rfl; first | omega | decide | exact fun h9 => absurd (by decide) h9) kKR_43 kKC_43 kK43x_43 kKT37_43 K50 K51 K49 (by show (2147483647 - (0 : Int) : Int) < _; decide))
        · refine mv_aload_n d_TrustDeskModel_joins_42 rfl rfl ?_
          obtain ⟨a364, q363, t_a364⟩ := tm_atR I_43 h_q0_43 (k := 41) rfl
          refine tr_getK q363 d_TrustDeskModel_joins_43 f_TrustDeskModel_92_13 ?_
          refine mv_bipush (v := 12) d_TrustDeskModel_joins_46 (by decide) ?_
          refine mv_iload_n d_TrustDeskModel_joins_48 rfl rfl ?_
          refine mv_imul d_TrustDeskModel_joins_49 ?_
          refine mv_iload d_TrustDeskModel_joins_50 rfl ?_
          refine mv_iadd d_TrustDeskModel_joins_52 ?_
          refine mv_lload d_TrustDeskModel_joins_53 rfl ?_
          refine mv_aload_n d_TrustDeskModel_joins_55 rfl rfl ?_
          refine tr_getK (k := 41) q363 d_TrustDeskModel_joins_56 f_TrustDeskModel_92_13 ?_
          refine mv_bipush (v := 12) d_TrustDeskModel_joins_59 (by decide) ?_
          refine mv_iload_n d_TrustDeskModel_joins_61 rfl rfl ?_
          refine mv_imul d_TrustDeskModel_joins_62 ?_
          refine mv_iload d_TrustDeskModel_joins_63 rfl ?_
          refine mv_iadd d_TrustDeskModel_joins_65 ?_
          have b365 : (12 * x2 : Int32).toInt = (12 * x2.toInt) := mz_mul2 (by decide) rfl (by have := kKR_43.1 32 _ _ rfl; omega) (by have := kKR_43.1 32 _ _ rfl; omega)
          have b366 : ((12 * x2) + i8_43 : Int32).toInt = ((12 * x2.toInt) + i8_43.toInt) := mz_add2 b365 rfl (by have := kKR_43.1 32 _ _ rfl; omega) (by have := kKR_43.1 32 _ _ rfl; omega)
          refine tr_ialdR (o := o0) (k := 41) I_43 q363 t_a364 (by decide) d_TrustDeskModel_joins_66 (vp_in_iff.mpr (by have := kKR_43.1 32 _ _ rfl; omega)) (fun v367 e368 => ?_)
          have := kKR_43.a (k := 41) rfl (((12 * x2) + i8_43) : Int32).toNatClampNeg
          have h369 : ((12 * x2) + i8_43).toNatClampNeg = 12 * x2.toNatClampNeg + i8_43.toInt.toNat := by have := mz_nat9 (i := ((12 * x2) + i8_43)) (by have := kKR_43.1 32 _ _ rfl; omega); have := mz_nat9 (i := x2) (by have := kKR_43.1 32 _ _ rfl; omega); have := kKR_43.1 32 _ _ rfl; omega
          have e370 : v367.toInt = ra M_43 o0 41 (12 * x2.toNatClampNeg + i8_43.toInt.toNat) := by rw [e368, h369]
          refine mv_i2l (v := v367.toInt64) d_TrustDeskModel_joins_67 rfl ?_
          refine mv_lmul d_TrustDeskModel_joins_68 ?_
          refine mv_lload_n d_TrustDeskModel_joins_69 rfl rfl ?_
          refine mv_aload_n d_TrustDeskModel_joins_70 rfl rfl ?_
          refine tr_getK (k := 41) q363 d_TrustDeskModel_joins_71 f_TrustDeskModel_92_13 ?_
          refine mv_bipush (v := 12) d_TrustDeskModel_joins_74 (by decide) ?_
          refine mv_iload_n d_TrustDeskModel_joins_76 rfl rfl ?_
          refine mv_imul d_TrustDeskModel_joins_77 ?_
          refine mv_iload d_TrustDeskModel_joins_78 rfl ?_
          refine mv_iadd d_TrustDeskModel_joins_80 ?_
          have b371 : (12 * x1 : Int32).toInt = (12 * x1.toInt) := mz_mul2 (by decide) rfl (by have := kKR_43.1 32 _ _ rfl; omega) (by have := kKR_43.1 32 _ _ rfl; omega)
          have b372 : ((12 * x1) + i8_43 : Int32).toInt = ((12 * x1.toInt) + i8_43.toInt) := mz_add2 b371 rfl (by have := kKR_43.1 32 _ _ rfl; omega) (by have := kKR_43.1 32 _ _ rfl; omega)
          refine tr_ialdR (o := o0) (k := 41) I_43 q363 t_a364 (by decide) d_TrustDeskModel_joins_81 (vp_in_iff.mpr (by have := kKR_43.1 32 _ _ rfl; omega)) (fun v373 e374 => ?_)
          have := kKR_43.a (k := 41) rfl (((12 * x1) + i8_43) : Int32).toNatClampNeg
          have h375 : ((12 * x1) + i8_43).toNatClampNeg = 12 * x1.toNatClampNeg + i8_43.toInt.toNat := by have := mz_nat9 (i := ((12 * x1) + i8_43)) (by have := kKR_43.1 32 _ _ rfl; omega); have := mz_nat9 (i := x1) (by have := kKR_43.1 32 _ _ rfl; omega); have := kKR_43.1 32 _ _ rfl; omega
          have e376 : v373.toInt = ra M_43 o0 41 (12 * x1.toNatClampNeg + i8_43.toInt.toNat) := by rw [e374, h375]
          refine mv_i2l (v := v373.toInt64) d_TrustDeskModel_joins_82 rfl ?_
          refine mv_lmul d_TrustDeskModel_joins_83 ?_
          refine mv_ladd d_TrustDeskModel_joins_84 ?_
          refine mv_lload_n d_TrustDeskModel_joins_85 rfl rfl ?_
          refine mv_lload d_TrustDeskModel_joins_86 rfl ?_
          refine mv_ladd d_TrustDeskModel_joins_88 ?_
          have : (v367.toInt64 : Int64).toInt = v367.toInt := mz_wide _
          have := mz_mulLb (x := v29) (y := v367.toInt64) (A := 1000000000000) (B := 1000000) (by have := kKR_43.1 32 _ _ rfl; omega) (by have := kKR_43.1 32 _ _ rfl; omega) (by have := kKR_43.1 32 _ _ rfl; omega) (by have := kKR_43.1 32 _ _ rfl; omega) (by decide)
          have : (v373.toInt64 : Int64).toInt = v373.toInt := mz_wide _
          have := mz_mulLb (x := v12) (y := v373.toInt64) (A := 1000000000000) (B := 1000000) (by have := kKR_43.1 32 _ _ rfl; omega) (by have := kKR_43.1 32 _ _ rfl; omega) (by have := kKR_43.1 32 _ _ rfl; omega) (by have := kKR_43.1 32 _ _ rfl; omega) (by decide)
          have hN : (((v29 * v367.toInt64) + (v12 * v373.toInt64)) : Int64).toInt = v29.toInt * v367.toInt + v12.toInt * v373.toInt := mz_addL (by have := mz_mulLb (x := v29) (y := v367.toInt64) (A := 1000000000000) (B := 1000000) (by have := kKR_43.1 32 _ _ rfl; omega) (by have := kKR_43.1 32 _ _ rfl; omega) (by have := kKR_43.1 32 _ _ rfl; omega) (by have := kKR_43.1 32 _ _ rfl; omega) (by decide); rw [this.2.2, mz_wide] <;> rfl) (by have := mz_mulLb (x := v12) (y := v373.toInt64) (A := 1000000000000) (B := 1000000) (by have := kKR_43.1 32 _ _ rfl; omega) (by have := kKR_43.1 32 _ _ rfl; omega) (by have := kKR_43.1 32 _ _ rfl; omega) (by have := kKR_43.1 32 _ _ rfl; omega) (by decide); rw [this.2.2, mz_wide] <;> rfl) (by have := jn_prod (b := v29.toInt) (p := v367.toInt) (by have := kKR_43.1 32 _ _ rfl; omega) (by have := kKR_43.1 32 _ _ rfl; omega) (by have := kKR_43.1 32 _ _ rfl; omega) (by have := kKR_43.1 32 _ _ rfl; omega); have := jn_prod (b := v12.toInt) (p := v373.toInt) (by have := kKR_43.1 32 _ _ rfl; omega) (by have := kKR_43.1 32 _ _ rfl; omega) (by have := kKR_43.1 32 _ _ rfl; omega) (by have := kKR_43.1 32 _ _ rfl; omega); omega) (by have := jn_prod (b := v29.toInt) (p := v367.toInt) (by have := kKR_43.1 32 _ _ rfl; omega) (by have := kKR_43.1 32 _ _ rfl; omega) (by have := kKR_43.1 32 _ _ rfl; omega) (by have := kKR_43.1 32 _ _ rfl; omega); have := jn_prod (b := v12.toInt) (p := v373.toInt) (by have := kKR_43.1 32 _ _ rfl; omega) (by have := kKR_43.1 32 _ _ rfl; omega) (by have := kKR_43.1 32 _ _ rfl; omega) (by have := kKR_43.1 32 _ _ rfl; omega); omega)
          have hD : ((v12 + v29) : Int64).toInt = v12.toInt + v29.toInt := mz_addL (by first | rfl | decide) (by first | rfl | decide) (by omega) (by omega)
          have hJ := jn_div (a := v12.toInt) (b := v29.toInt) (p := v367.toInt) (q := v373.toInt) (by omega) (by omega) (by omega) (by omega) (by omega) (by omega) (by omega)
          have hQ : (((v29 * v367.toInt64) + (v12 * v373.toInt64)) / (v12 + v29) : Int64).toInt = (v29.toInt * v367.toInt + v12.toInt * v373.toInt) / (v12.toInt + v29.toInt) := by rw [mz_divL (by have := jn_prod (b := v29.toInt) (p := v367.toInt) (by have := kKR_43.1 32 _ _ rfl; omega) (by have := kKR_43.1 32 _ _ rfl; omega) (by have := kKR_43.1 32 _ _ rfl; omega) (by have := kKR_43.1 32 _ _ rfl; omega); have := jn_prod (b := v12.toInt) (p := v373.toInt) (by have := kKR_43.1 32 _ _ rfl; omega) (by have := kKR_43.1 32 _ _ rfl; omega) (by have := kKR_43.1 32 _ _ rfl; omega) (by have := kKR_43.1 32 _ _ rfl; omega); omega) (by omega), hN, hD]
          have h377 : 0 < ((v12 + v29) : Int64).toInt := by omega
          refine mv_ldiv d_TrustDeskModel_joins_89 (mz_lne (by omega)) ?_
          have : ((((v29 * v367.toInt64) + (v12 * v373.toInt64)) / (v12 + v29)).toInt32).toInt = (((v29 * v367.toInt64) + (v12 * v373.toInt64)) / (v12 + v29)).toInt := mz_l2i (by have := kKR_43.1 32 _ _ rfl; omega) (by have := kKR_43.1 32 _ _ rfl; omega)
          refine mv_l2i (v := (((v29 * v367.toInt64) + (v12 * v373.toInt64)) / (v12 + v29)).toInt32) d_TrustDeskModel_joins_90 rfl ?_
          have b378 : (12 * x2 : Int32).toInt = (12 * x2.toInt) := mz_mul2 (by decide) rfl (by have := kKR_43.1 32 _ _ rfl; omega) (by have := kKR_43.1 32 _ _ rfl; omega)
          have b379 : ((12 * x2) + i8_43 : Int32).toInt = ((12 * x2.toInt) + i8_43.toInt) := mz_add2 b378 rfl (by have := kKR_43.1 32 _ _ rfl; omega) (by have := kKR_43.1 32 _ _ rfl; omega)
          refine tr_iastR (k := 41) I_43 kKR_43 (I_43.up h_o0) q363 t_a364 (by decide) (by decide) (fun lo hi h => by cases h; have := kKR_43.1 32 _ _ rfl; exact ⟨by show (0 : Int) ≤ ((((v29 * v367.toInt64) + (v12 * v373.toInt64)) / (v12 + v29)).toInt32).toInt; omega, by show ((((v29 * v367.toInt64) + (v12 * v373.toInt64)) / (v12 + v29)).toInt32).toInt ≤ (1000000 : Int); omega⟩) (Or.inl (by decide)) d_TrustDeskModel_joins_91 (vp_in_iff.mpr (by have := kKR_43.1 32 _ _ rfl; omega)) (fun M380 I381 K382 R383 E384 A385 V386 => ?_)
          have z387 := (V386 32)
          have z388 := (A385 43 (by decide) rfl x2.toNatClampNeg)
          have K389 : rC M380 o0 44 := kKC_43.same (sA_a A385 (by decide +kernel)) (sF_a V386)
          have K390 : ∀ i : Nat, i ≠ x2.toNatClampNeg → ra M380 o0 43 i = ra M0 o0 43 i := (by have e9 := ((sA_a A385 (by decide +kernel)) : sA [43] _ _ _) 43 rfl; rw [e9]; exact kK43x_43)
          have K391 : sA [37] M0 M380 o0 := kKT37_43.trans (sA_a A385 (by decide +kernel))
          have K392 : rPJ M0 M380 o0 x2.toNatClampNeg x1.toNatClampNeg v12.toInt v29.toInt (i8_43.toInt + 1) := kKPJ_43.st (by omega) (by omega) E384 (by have := mz_nat9 (i := ((12 * x2) + i8_43)) (by have := kKR_43.1 32 _ _ rfl; omega); have := mz_nat9 (i := x2) (by have := kKR_43.1 32 _ _ rfl; omega); have := kKR_43.1 32 _ _ rfl; omega) (by rw [← e370, ← e376]; omega) (by omega)
          have K393 : rPS M380 o0 x2.toNatClampNeg (i8_43.toInt + 1) (1000000 - i7_43.toInt + ((((v29 * v367.toInt64) + (v12 * v373.toInt64)) / (v12 + v29)).toInt32).toInt) := kKPS_43.st (by omega) E384 (by have := mz_nat9 (i := ((12 * x2) + i8_43)) (by have := kKR_43.1 32 _ _ rfl; omega); have := mz_nat9 (i := x2) (by have := kKR_43.1 32 _ _ rfl; omega); have := kKR_43.1 32 _ _ rfl; omega)
          refine mv_iload d_TrustDeskModel_joins_92 rfl ?_
          refine mv_aload_n d_TrustDeskModel_joins_94 rfl rfl ?_
          refine tr_getK (k := 41) (K382 _ 13 41 _ q363) d_TrustDeskModel_joins_95 f_TrustDeskModel_92_13 ?_
          refine mv_bipush (v := 12) d_TrustDeskModel_joins_98 (by decide) ?_
          refine mv_iload_n d_TrustDeskModel_joins_100 rfl rfl ?_
          refine mv_imul d_TrustDeskModel_joins_101 ?_
          refine mv_iload d_TrustDeskModel_joins_102 rfl ?_
          refine mv_iadd d_TrustDeskModel_joins_104 ?_
          have b394 : (12 * x2 : Int32).toInt = (12 * x2.toInt) := mz_mul2 (by decide) rfl (by have := R383.1 32 _ _ rfl; omega) (by have := R383.1 32 _ _ rfl; omega)
          have b395 : ((12 * x2) + i8_43 : Int32).toInt = ((12 * x2.toInt) + i8_43.toInt) := mz_add2 b394 rfl (by have := R383.1 32 _ _ rfl; omega) (by have := R383.1 32 _ _ rfl; omega)
          refine tr_ialdR (o := o0) (k := 41) I381 (K382 _ 13 41 _ q363) t_a364 (by decide) d_TrustDeskModel_joins_105 (vp_in_iff.mpr (by have := R383.1 32 _ _ rfl; omega)) (fun v396 e397 => ?_)
          have := R383.a (k := 41) rfl (((12 * x2) + i8_43) : Int32).toNatClampNeg
          have : v396.toInt = ((((v29 * v367.toInt64) + (v12 * v373.toInt64)) / (v12 + v29)).toInt32).toInt := e397.trans ((E384 _).trans (if_pos rfl))
          refine mv_isub d_TrustDeskModel_joins_106 ?_
          refine mv_istore (lv' := [(7, .int (i7_43 - v396)), (8, .int i8_43), (5, .long v29), (3, .long v12), (0, .ref o0), (1, .int x1), (2, .int x2)]) d_TrustDeskModel_joins_107 (by decide) rfl ?_
          refine mv_iinc (v := (i8_43 + 1)) (lv' := [(8, .int (i8_43 + 1)), (7, .int (i7_43 - v396)), (5, .long v29), (3, .long v12), (0, .ref o0), (1, .int x1), (2, .int x2)]) d_TrustDeskModel_joins_109 rfl rfl (by decide) rfl ?_
          refine mv_goto (tgt := 35) d_TrustDeskModel_joins_112 (by decide) ?_
          have b398 : (i7_43 - v396 : Int32).toInt = (i7_43.toInt - v396.toInt) := mz_sub2 rfl rfl (by have := R383.1 32 _ _ rfl; omega) (by have := R383.1 32 _ _ rfl; omega)
          have b399 : (i8_43 + 1 : Int32).toInt = (i8_43.toInt + 1) := mz_add2 rfl (by decide) (by have := R383.1 32 _ _ rfl; omega) (by have := R383.1 32 _ _ rfl; omega)
          have b400 : (i8_43 + 1 : Int32).toInt = (i8_43.toInt + 1) := mz_add2 rfl (by decide) (by have := R383.1 32 _ _ rfl; omega) (by have := R383.1 32 _ _ rfl; omega)
          have K401 : rPJ M0 M380 o0 x2.toNatClampNeg x1.toNatClampNeg v12.toInt v29.toInt ((i8_43 + 1).toInt) := K392.cast (by omega)
          have K402 : rPS M380 o0 x2.toNatClampNeg ((i8_43 + 1).toInt) (1000000 - (i7_43 - v396).toInt) := K393.cast (by omega) (by omega)
          have b403 : (i8_43 + 1).toInt = i8_43.toInt + 1 := mz_addn 1 1 (by decide) (by have := mz_lo i8_43; omega) (by have := mz_hi i8_43; omega)
          exact (ih43 (i8_43 + 1) (i7_43 - v396) T_43 M380 n_43 I381 h_q0_43 (by have := R383.1 32 _ _ rfl; first | omega | decide | exact fun h9 => absurd (by decide) h9) (by have := R383.1 32 _ _ rfl; first | omega | decide | exact fun h9 => absurd (by decide) h9) (by have := R383.1 32 _ _ rfl; first | omega | decide | exact fun h9 => absurd (by decide) h9) (by have := R383.1 32 _ _ rfl; first | omega | decide | exact fun h9 => absurd (by decide) h9) (by have := R383.1 32 _ _ rfl; first | omega | decide | exact fun h9 => absurd (by decide) h9) (by have := R383.1 32 _ _ rfl; first | omega | decide | exact fun h9 => absurd (by decide) h9) R383 K389 K390 K391 K401 K402 (by have := R383.1 32 _ _ rfl; omega))
    have : (1000000 : Int32).toInt = 1000000 := by decide
    have : (0 : Int32).toInt = 0 := by decide
    have : (0 : Int32).toInt = 0 := by decide
    have : (1000000 : Int32).toInt = 1000000 := by decide
    have K404 : rPS M23 o0 x2.toNatClampNeg 0 (1000000 - 1000000) := K42.cast (by omega) (by omega)
    exact mv_less (Nat.zero_le _) (Nat.zero_le _) (L35_43 4294967296 0 1000000 T25 M23 n24 I27 t32 (by have := R30.1 32 _ _ rfl; first | omega | decide | exact fun h9 => absurd (by decide) h9) (by have := R30.1 32 _ _ rfl; first | omega | decide | exact fun h9 => absurd (by decide) h9) (by have := R30.1 32 _ _ rfl; first | omega | decide | exact fun h9 => absurd (by decide) h9) (by have := R30.1 32 _ _ rfl; first | omega | decide | exact fun h9 => absurd (by decide) h9) (by have := R30.1 32 _ _ rfl; first | omega | decide | exact fun h9 => absurd (by decide) h9) (by have := R30.1 32 _ _ rfl; first | omega | decide | exact fun h9 => absurd (by decide) h9) R30 K35 K36 K37 K41 K404 (by show (2147483647 - (0 : Int) : Int) < _; decide))
  · refine mv_lconst (v := 1) d_TrustDeskModel_joins_22 (by decide) ?_
    refine mv_lstore_n (lv' := [(3, .long 1), (5, .long v29), (0, .ref o0), (1, .int x1), (2, .int x2)]) d_TrustDeskModel_joins_23 rfl (by decide) rfl ?_
    refine mv_lconst (v := 1) d_TrustDeskModel_joins_24 (by decide) ?_
    refine mv_lstore (lv' := [(5, .long 1), (3, .long 1), (0, .ref o0), (1, .int x1), (2, .int x2)]) d_TrustDeskModel_joins_25 (by decide) rfl ?_
    have : (1 : Int64).toInt = 1 := by decide
    have : (1 : Int64).toInt = 1 := by decide
    have K405 : rPJ M0 M23 o0 x2.toNatClampNeg x1.toNatClampNeg 1 1 0 := rPJ.rf.same (K38 41 rfl)
    have K406 : rPS M23 o0 x2.toNatClampNeg 0 0 := rfl
    refine mv_ldcw d_TrustDeskModel_joins_27 k_TrustDeskModel_432 ?_
    refine mv_istore (lv' := [(7, .int 1000000), (5, .long 1), (3, .long 1), (0, .ref o0), (1, .int x1), (2, .int x2)]) d_TrustDeskModel_joins_30 (by decide) rfl ?_
    refine mv_iconst (v := 0) d_TrustDeskModel_joins_32 (by decide) ?_
    refine mv_istore (lv' := [(8, .int 0), (7, .int 1000000), (5, .long 1), (3, .long 1), (0, .ref o0), (1, .int x1), (2, .int x2)]) d_TrustDeskModel_joins_33 (by decide) rfl ?_
    have L35_407 : ∀ (k : Nat) (i8_407 : Int32) (i7_407 : Int32) (T_407 : tm_H) (M_407 : mj_M) (n_407 : Nat), tm_I tm_FT (tm_in w_TrustDeskModel_joins_x) x9 T0 M0 n0 T_407 M_407 n_407 → T_407 o0 = some (0, 13, 0) → 0 ≤ i8_407.toInt → rv M_407 o0 32 = rv M0 o0 32 → ra M_407 o0 43 x2.toNatClampNeg = ra M0 o0 43 x2.toNatClampNeg → i7_407.toInt ≤ 1000000 → 1000000 - 1000000 * i8_407.toInt ≤ i7_407.toInt → i8_407.toInt ≤ 12 → (rI M_407 o0) → (rC M_407 o0 44) → (∀ i : Nat, i ≠ x2.toNatClampNeg → ra M_407 o0 43 i = ra M0 o0 43 i) → (sA [37] M0 M_407 o0) → (rPJ M0 M_407 o0 x2.toNatClampNeg x1.toNatClampNeg 1 1 i8_407.toInt) → (rPS M_407 o0 x2.toNatClampNeg i8_407.toInt (1000000 - i7_407.toInt)) → 2147483647 - i8_407.toInt < (k : Int) → mj_V g l kY_TrustDeskModel_joins (d + 3) 35 [(8, .int i8_407), (7, .int i7_407), (5, .long 1), (3, .long 1), (0, .ref o0), (1, .int x1), (2, .int x2)] [] M_407 n_407 0 0 (tm_Q tm_FT (tm_in w_TrustDeskModel_joins_x) x9 T0 M0 n0 (fun r _ M => r = none ∧ rI M o0 ∧ (rC M o0 44) ∧ (rP M o0) ∧ (rB M o0 12))) := by
      intro k407
      induction k407 with
      | zero =>
        intro i8_407 i7_407 T_407 M_407 n_407 I_407 h_q0_407 iv0_407 iv1_407 iv2_407 iv3_407 iv4_407 iv5_407 kKR_407 kKC_407 kK43x_407 kKT37_407 kKPJ_407 kKPS_407 hk407
        have := mz_hi i8_407
        have := kKR_407.1 15 _ _ rfl
        have := kKR_407.1 16 _ _ rfl
        have := kKR_407.1 19 _ _ rfl
        omega
      | succ k407 ih407 =>
        intro i8_407 i7_407 T_407 M_407 n_407 I_407 h_q0_407 iv0_407 iv1_407 iv2_407 iv3_407 iv4_407 iv5_407 kKR_407 kKC_407 kK43x_407 kKT37_407 kKPJ_407 kKPS_407 hk407
        refine mv_iload d_TrustDeskModel_joins_35 rfl ?_
        refine mv_bipush (v := 12) d_TrustDeskModel_joins_37 (by decide) ?_
        have := mz_hi i8_407
        refine mv_icmp_geZ (tgt := 115) (a := i8_407.toInt) (b := 12) d_TrustDeskModel_joins_39 (by decide) rfl (by decide) (fun b408 => ?_) (fun b408 => ?_)
        · obtain ⟨h410, j409, h411, h412⟩ := rPJ.fin (kKPJ_407.cast (k1 := 12) (by omega)) (by omega) (yP x2.toNatClampNeg (by omega) (by omega) yfx.2.2.2.2.2.2) (yP x1.toNatClampNeg (by omega) (by omega) yfx.2.2.2.2.2.1)
          have K413 : ra M_407 o0 41 (12 * x2.toNatClampNeg + j409) ≠ 0 := h412
          have K414 : rPJ M0 M_407 o0 x2.toNatClampNeg x1.toNatClampNeg 1 1 12 := kKPJ_407.cast (by omega)
          have K415 : rPS M_407 o0 x2.toNatClampNeg 12 (1000000 - i7_407.toInt) := kKPS_407.cast (by omega) (by omega)
          have : sm (ra M_407 o0 41) (12 * x2.toNatClampNeg) 12 = 1000000 - i7_407.toInt := K415
          have : 0 ≤ i7_407.toInt := by omega
          refine mv_iconst (v := 0) d_TrustDeskModel_joins_115 (by decide) ?_
          refine mv_istore (lv' := [(8, .int 0), (7, .int i7_407), (5, .long 1), (3, .long 1), (0, .ref o0), (1, .int x1), (2, .int x2)]) d_TrustDeskModel_joins_116 (by decide) rfl ?_
          have L118_416 : ∀ (k : Nat) (i8_416 : Int32) (T_416 : tm_H) (M_416 : mj_M) (n_416 : Nat), tm_I tm_FT (tm_in w_TrustDeskModel_joins_x) x9 T0 M0 n0 T_416 M_416 n_416 → T_416 o0 = some (0, 13, 0) → 0 ≤ i8_416.toInt → rv M_416 o0 32 = rv M0 o0 32 → ra M_416 o0 43 x2.toNatClampNeg = ra M0 o0 43 x2.toNatClampNeg → i8_416.toInt ≤ (j409 : Int) → (rI M_416 o0) → (rC M_416 o0 44) → (∀ i : Nat, i ≠ x2.toNatClampNeg → ra M_416 o0 43 i = ra M0 o0 43 i) → (sA [37] M0 M_416 o0) → (rPJ M0 M_416 o0 x2.toNatClampNeg x1.toNatClampNeg 1 1 12) → (rPS M_416 o0 x2.toNatClampNeg 12 (1000000 - i7_407.toInt)) → (ra M_416 o0 41 (12 * x2.toNatClampNeg + j409) ≠ 0) → 2147483647 - i8_416.toInt < (k : Int) → mj_V g l kY_TrustDeskModel_joins (d + 3) 118 [(8, .int i8_416), (7, .int i7_407), (5, .long 1), (3, .long 1), (0, .ref o0), (1, .int x1), (2, .int x2)] [] M_416 n_416 0 0 (tm_Q tm_FT (tm_in w_TrustDeskModel_joins_x) x9 T0 M0 n0 (fun r _ M => r = none ∧ rI M o0 ∧ (rC M o0 44) ∧ (rP M o0) ∧ (rB M o0 12))) := by
            intro k416
            induction k416 with
            | zero =>
              intro i8_416 T_416 M_416 n_416 I_416 h_q0_416 iv0_416 iv1_416 iv2_416 iv3_416 kKR_416 kKC_416 kK43x_416 kKT37_416 kKPJ_416 kKPS_416 kKJ0_416 hk416
              have := mz_hi i8_416
              have := kKR_416.1 15 _ _ rfl
              have := kKR_416.1 16 _ _ rfl
              have := kKR_416.1 19 _ _ rfl
              omega
            | succ k416 ih416 =>
              intro i8_416 T_416 M_416 n_416 I_416 h_q0_416 iv0_416 iv1_416 iv2_416 iv3_416 kKR_416 kKC_416 kK43x_416 kKT37_416 kKPJ_416 kKPS_416 kKJ0_416 hk416
              refine mv_aload_n d_TrustDeskModel_joins_118 rfl rfl ?_
              obtain ⟨a418, q417, t_a418⟩ := tm_atR I_416 h_q0_416 (k := 41) rfl
              refine tr_getK q417 d_TrustDeskModel_joins_119 f_TrustDeskModel_92_13 ?_
              refine mv_bipush (v := 12) d_TrustDeskModel_joins_122 (by decide) ?_
              refine mv_iload_n d_TrustDeskModel_joins_124 rfl rfl ?_
              refine mv_imul d_TrustDeskModel_joins_125 ?_
              refine mv_iload d_TrustDeskModel_joins_126 rfl ?_
              refine mv_iadd d_TrustDeskModel_joins_128 ?_
              have b419 : (12 * x2 : Int32).toInt = (12 * x2.toInt) := mz_mul2 (by decide) rfl (by have := kKR_416.1 32 _ _ rfl; omega) (by have := kKR_416.1 32 _ _ rfl; omega)
              have b420 : ((12 * x2) + i8_416 : Int32).toInt = ((12 * x2.toInt) + i8_416.toInt) := mz_add2 b419 rfl (by have := kKR_416.1 32 _ _ rfl; omega) (by have := kKR_416.1 32 _ _ rfl; omega)
              refine tr_ialdR (o := o0) (k := 41) I_416 q417 t_a418 (by decide) d_TrustDeskModel_joins_129 (vp_in_iff.mpr (by have := kKR_416.1 32 _ _ rfl; omega)) (fun v421 e422 => ?_)
              have := kKR_416.a (k := 41) rfl (((12 * x2) + i8_416) : Int32).toNatClampNeg
              have h423 : ((12 * x2) + i8_416).toNatClampNeg = 12 * x2.toNatClampNeg + i8_416.toInt.toNat := by have := mz_nat9 (i := ((12 * x2) + i8_416)) (by have := kKR_416.1 32 _ _ rfl; omega); have := mz_nat9 (i := x2) (by have := kKR_416.1 32 _ _ rfl; omega); have := kKR_416.1 32 _ _ rfl; omega
              have e424 : v421.toInt = ra M_416 o0 41 (12 * x2.toNatClampNeg + i8_416.toInt.toNat) := by rw [e422, h423]
              have : i8_416.toInt = (j409 : Int) → v421.toInt ≠ 0 := fun h9 => by rw [e424, show i8_416.toInt.toNat = j409 from by omega]; exact kKJ0_416
              have := sm_mem (g := ra M_416 o0 41) (b := 12 * x2.toNatClampNeg) (j := i8_416.toInt.toNat) 12 (fun k9 _ => (kKR_416.2 41 _ _ rfl _).1) (by omega)
              have : sm (ra M_416 o0 41) (12 * x2.toNatClampNeg) 12 = _ := kKPS_416
              have := mz_hi v421
              refine mv_if_neZ (tgt := 139) (a := v421.toInt) d_TrustDeskModel_joins_130 (by decide) rfl (fun b425 => ?_) (fun b425 => ?_)
              · refine mv_aload_n d_TrustDeskModel_joins_139 rfl rfl ?_
                refine tr_getK (k := 41) q417 d_TrustDeskModel_joins_140 f_TrustDeskModel_92_13 ?_
                refine mv_bipush (v := 12) d_TrustDeskModel_joins_143 (by decide) ?_
                refine mv_iload_n d_TrustDeskModel_joins_145 rfl rfl ?_
                refine mv_imul d_TrustDeskModel_joins_146 ?_
                refine mv_iload d_TrustDeskModel_joins_147 rfl ?_
                refine mv_iadd d_TrustDeskModel_joins_149 ?_
                refine mv_dup2_11 d_TrustDeskModel_joins_150 rfl rfl ?_
                have b426 : (12 * x2 : Int32).toInt = (12 * x2.toInt) := mz_mul2 (by decide) rfl (by have := kKR_416.1 32 _ _ rfl; omega) (by have := kKR_416.1 32 _ _ rfl; omega)
                have b427 : ((12 * x2) + i8_416 : Int32).toInt = ((12 * x2.toInt) + i8_416.toInt) := mz_add2 b426 rfl (by have := kKR_416.1 32 _ _ rfl; omega) (by have := kKR_416.1 32 _ _ rfl; omega)
                refine tr_ialdR (o := o0) (k := 41) I_416 q417 t_a418 (by decide) d_TrustDeskModel_joins_151 (vp_in_iff.mpr (by have := kKR_416.1 32 _ _ rfl; omega)) (fun v428 e429 => ?_)
                have := kKR_416.a (k := 41) rfl (((12 * x2) + i8_416) : Int32).toNatClampNeg
                have h430 : ((12 * x2) + i8_416).toNatClampNeg = 12 * x2.toNatClampNeg + i8_416.toInt.toNat := by have := mz_nat9 (i := ((12 * x2) + i8_416)) (by have := kKR_416.1 32 _ _ rfl; omega); have := mz_nat9 (i := x2) (by have := kKR_416.1 32 _ _ rfl; omega); have := kKR_416.1 32 _ _ rfl; omega
                have e431 : v428.toInt = ra M_416 o0 41 (12 * x2.toNatClampNeg + i8_416.toInt.toNat) := by rw [e429, h430]
                have : i8_416.toInt = (j409 : Int) → v428.toInt ≠ 0 := fun h9 => by rw [e431, show i8_416.toInt.toNat = j409 from by omega]; exact kKJ0_416
                have := sm_mem (g := ra M_416 o0 41) (b := 12 * x2.toNatClampNeg) (j := i8_416.toInt.toNat) 12 (fun k9 _ => (kKR_416.2 41 _ _ rfl _).1) (by omega)
                have : sm (ra M_416 o0 41) (12 * x2.toNatClampNeg) 12 = _ := kKPS_416
                refine mv_iload d_TrustDeskModel_joins_152 rfl ?_
                refine mv_iadd d_TrustDeskModel_joins_154 ?_
                have b432 : (12 * x2 : Int32).toInt = (12 * x2.toInt) := mz_mul2 (by decide) rfl (by have := kKR_416.1 32 _ _ rfl; omega) (by have := kKR_416.1 32 _ _ rfl; omega)
                have b433 : ((12 * x2) + i8_416 : Int32).toInt = ((12 * x2.toInt) + i8_416.toInt) := mz_add2 b432 rfl (by have := kKR_416.1 32 _ _ rfl; omega) (by have := kKR_416.1 32 _ _ rfl; omega)
                have b434 : (v428 + i7_407 : Int32).toInt = (v428.toInt + i7_407.toInt) := mz_add2 rfl rfl (by have := kKR_416.1 32 _ _ rfl; omega) (by have := kKR_416.1 32 _ _ rfl; omega)
                refine tr_iastR (k := 41) I_416 kKR_416 (I_416.up h_o0) q417 t_a418 (by decide) (by decide) (fun lo hi h => by cases h; have := kKR_416.1 32 _ _ rfl; exact ⟨by show (0 : Int) ≤ (v428 + i7_407).toInt; omega, by show (v428 + i7_407).toInt ≤ (1000000 : Int); omega⟩) (Or.inl (by decide)) d_TrustDeskModel_joins_155 (vp_in_iff.mpr (by have := kKR_416.1 32 _ _ rfl; omega)) (fun M435 I436 K437 R438 E439 A440 V441 => ?_)
                have z442 := (V441 32)
                have z443 := (A440 43 (by decide) rfl x2.toNatClampNeg)
                have K444 : rC M435 o0 44 := kKC_416.same (sA_a A440 (by decide +kernel)) (sF_a V441)
                have K445 : ∀ i : Nat, i ≠ x2.toNatClampNeg → ra M435 o0 43 i = ra M0 o0 43 i := (by have e9 := ((sA_a A440 (by decide +kernel)) : sA [43] _ _ _) 43 rfl; rw [e9]; exact kK43x_416)
                have K446 : sA [37] M0 M435 o0 := kKT37_416.trans (sA_a A440 (by decide +kernel))
                have h447 : ((12 * x2) + i8_416).toNatClampNeg = 12 * x2.toNatClampNeg + i8_416.toInt.toNat := by have := mz_nat9 (i := ((12 * x2) + i8_416)) (by have := kKR_416.1 32 _ _ rfl; omega); have := mz_nat9 (i := x2) (by have := kKR_416.1 32 _ _ rfl; omega); have := kKR_416.1 32 _ _ rfl; omega
                have K448 : sm (ra M435 o0 41) (12 * x2.toNatClampNeg) 12 = 1000000 ∧ ∀ i : Nat, ¬ (12 * x2.toNatClampNeg ≤ i ∧ (i : Int) < 12 * x2.toNatClampNeg + 12) → ra M435 o0 41 i = ra M0 o0 41 i := ⟨by have e8 := rPS.add (X := x2.toNatClampNeg) (n := i8_416.toInt.toNat) (d := i7_407.toInt) E439 h447 (by rw [h447, ← e431]; omega) 12; rw [if_pos (show i8_416.toInt.toNat < 12 by omega)] at e8; omega, fun i hi => by rw [E439 i, if_neg (by omega)]; exact kKPJ_416.2 i hi⟩
                refine mv_aload_n d_TrustDeskModel_joins_156 rfl rfl ?_
                refine mv_iload_n d_TrustDeskModel_joins_157 rfl rfl ?_
                refine mv_aload_n d_TrustDeskModel_joins_158 rfl rfl ?_
                obtain ⟨a450, q449, t_a450⟩ := tm_atR I436 h_q0_416 (k := 35) rfl
                refine tr_getK q449 d_TrustDeskModel_joins_159 f_TrustDeskModel_72_13 ?_
                refine mv_iload_n d_TrustDeskModel_joins_162 rfl rfl ?_
                refine tr_laldR (o := o0) (k := 35) I436 q449 t_a450 (by decide) d_TrustDeskModel_joins_163 (vp_in_iff.mpr (by have := R438.1 32 _ _ rfl; omega)) (fun v451 e452 => ?_)
                have := R438.a (k := 35) rfl (x1 : Int32).toNatClampNeg
                obtain ⟨_, b459, -⟩ := I436.1 _ _ h_q0_416
                refine mv_callV (kc' := 0) (ks' := 0) (As := [.int x2, .long v451]) (st9 := [.long v451, .int x2, .ref o0]) d_TrustDeskModel_joins_164 lV_TrustDeskModel_479 b459 rfl (tc_TrustDeskModel_gets_x (d := (d + 2)) (x9 := x9) (o0 := o0) (x1 := x2) (x2 := v451) h_q0_416 (by have := R438.1 32 _ _ rfl; omega) R438 (by have := R438.1 32 _ _ rfl; omega) I436.start) rfl (Nat.le_of_ble_eq_true rfl) (Nat.le_of_ble_eq_true rfl) (Nat.le_of_ble_eq_true rfl) (hst := rfl) (fun b453r M454 n455 b453 => ?_)
                obtain ⟨T456, J457, rfl, R460⟩ := b453
                have I458 := I436.call J457 (tm_sub (by decide)) (Or.inl rfl)
                have t461 := J457.up h_q0_416
                have z462 := (rv_c I436 J457 (I436.up h_o0) (k := 32) rfl).trans z442
                have z463 := (ra_call I436 J457 (I436.up h_o0) (k := 43) rfl rfl rfl x2.toNatClampNeg).trans z443
                have K464 : rC M454 o0 44 := K444.same (sA_c I436 J457 (I436.up h_o0) (by decide +kernel)) (sF_c I436 J457 (I436.up h_o0) (by decide +kernel))
                have K465 : ∀ i : Nat, i ≠ x2.toNatClampNeg → ra M454 o0 43 i = ra M0 o0 43 i := (by have e9 := ((sA_c I436 J457 (I436.up h_o0) (by decide +kernel)) : sA [43] _ _ _) 43 rfl; rw [e9]; exact K445)
                have K466 : sA [37] M0 M454 o0 := K446.trans (sA_c I436 J457 (I436.up h_o0) (by decide +kernel))
                have K467 : sm (ra M454 o0 41) (12 * x2.toNatClampNeg) 12 = 1000000 ∧ ∀ i : Nat, ¬ (12 * x2.toNatClampNeg ≤ i ∧ (i : Int) < 12 * x2.toNatClampNeg + 12) → ra M454 o0 41 i = ra M0 o0 41 i := (by have e9 := ((sA_c I436 J457 (I436.up h_o0) (by decide +kernel)) : sA [41] _ _ _) 41 rfl; rw [e9]; exact K448)
                clear z442 z443
                have q468 := J457.keep h_q0_416 (by decide) (K437 _ 13 41 _ q417)
                have t469 := J457.up t_a418
                have q470 := J457.keep h_q0_416 (by decide) q449
                have t471 := J457.up t_a450
                refine mv_aload_n d_TrustDeskModel_joins_167 rfl rfl ?_
                obtain ⟨a473, q472, t_a473⟩ := tm_atR I458 t461 (k := 33) rfl
                refine tr_getK q472 d_TrustDeskModel_joins_168 f_TrustDeskModel_66_13 ?_
                refine mv_iload_n d_TrustDeskModel_joins_171 rfl rfl ?_
                refine mv_sipush (v := 999) d_TrustDeskModel_joins_172 (by decide) ?_
                refine mv_aload_n d_TrustDeskModel_joins_175 rfl rfl ?_
                refine tr_getK (k := 33) q472 d_TrustDeskModel_joins_176 f_TrustDeskModel_66_13 ?_
                refine mv_iload_n d_TrustDeskModel_joins_179 rfl rfl ?_
                refine tr_ialdR (o := o0) (k := 33) I458 q472 t_a473 (by decide) d_TrustDeskModel_joins_180 (vp_in_iff.mpr (by have := R460.1 32 _ _ rfl; omega)) (fun v474 e475 => ?_)
                have := R460.a (k := 33) rfl (x2 : Int32).toNatClampNeg
                refine mv_aload_n d_TrustDeskModel_joins_181 rfl rfl ?_
                refine tr_getK (k := 33) q472 d_TrustDeskModel_joins_182 f_TrustDeskModel_66_13 ?_
                refine mv_iload_n d_TrustDeskModel_joins_185 rfl rfl ?_
                refine tr_ialdR (o := o0) (k := 33) I458 q472 t_a473 (by decide) d_TrustDeskModel_joins_186 (vp_in_iff.mpr (by have := R460.1 32 _ _ rfl; omega)) (fun v476 e477 => ?_)
                have := R460.a (k := 33) rfl (x1 : Int32).toNatClampNeg
                refine mv_iadd d_TrustDeskModel_joins_187 ?_
                have b478 : (v474 + v476 : Int32).toInt = (v474.toInt + v476.toInt) := mz_add2 rfl rfl (by have := R460.1 32 _ _ rfl; omega) (by have := R460.1 32 _ _ rfl; omega)
                obtain ⟨v479, b480, _, _, _⟩ := mz_min9 999 (v474 + v476)
                have : (999 : Int32).toInt = 999 := by decide
                refine mv_mmin (v := v479) d_TrustDeskModel_joins_188 (mj_in1 (List.mem_of_getElem? (i := 1992) (by decide +kernel)) rfl) (Nat.le_of_ble_eq_true rfl) b480 ?_
                refine tr_iastR (k := 33) I458 R460 (I458.up h_o0) q472 t_a473 (by decide) (by decide) (fun lo hi h => by cases h; have := R460.1 32 _ _ rfl; exact ⟨by show (0 : Int) ≤ v479.toInt; omega, by show v479.toInt ≤ (999 : Int); omega⟩) (Or.inl (by decide)) d_TrustDeskModel_joins_191 (vp_in_iff.mpr (by have := R460.1 32 _ _ rfl; omega)) (fun M481 I482 K483 R484 E485 A486 V487 => ?_)
                have z488 := (V487 32).trans z462
                have z489 := (A486 43 (by decide) rfl x2.toNatClampNeg).trans z463
                have K490 : rC M481 o0 44 := K464.same (sA_a A486 (by decide +kernel)) (sF_a V487)
                have K491 : ∀ i : Nat, i ≠ x2.toNatClampNeg → ra M481 o0 43 i = ra M0 o0 43 i := (by have e9 := ((sA_a A486 (by decide +kernel)) : sA [43] _ _ _) 43 rfl; rw [e9]; exact K465)
                have K492 : sA [37] M0 M481 o0 := K466.trans (sA_a A486 (by decide +kernel))
                have K493 : sm (ra M481 o0 41) (12 * x2.toNatClampNeg) 12 = 1000000 ∧ ∀ i : Nat, ¬ (12 * x2.toNatClampNeg ≤ i ∧ (i : Int) < 12 * x2.toNatClampNeg + 12) → ra M481 o0 41 i = ra M0 o0 41 i := (by have e9 := ((sA_a A486 (by decide +kernel)) : sA [41] _ _ _) 41 rfl; rw [e9]; exact K467)
                clear z462 z463
                refine mv_aload_n d_TrustDeskModel_joins_192 rfl rfl ?_
                obtain ⟨a495, q494, t_a495⟩ := tm_atR I482 t461 (k := 34) rfl
                refine tr_getK q494 d_TrustDeskModel_joins_193 f_TrustDeskModel_69_13 ?_
                refine mv_iload_n d_TrustDeskModel_joins_196 rfl rfl ?_
                refine mv_ldcw d_TrustDeskModel_joins_197 k_TrustDeskModel_547 ?_
                refine mv_aload_n d_TrustDeskModel_joins_200 rfl rfl ?_
                refine tr_getK (k := 34) q494 d_TrustDeskModel_joins_201 f_TrustDeskModel_69_13 ?_
                refine mv_iload_n d_TrustDeskModel_joins_204 rfl rfl ?_
                refine tr_ialdR (o := o0) (k := 34) I482 q494 t_a495 (by decide) d_TrustDeskModel_joins_205 (vp_in_iff.mpr (by have := R484.1 32 _ _ rfl; omega)) (fun v496 e497 => ?_)
                have := R484.a (k := 34) rfl (x2 : Int32).toNatClampNeg
                refine mv_aload_n d_TrustDeskModel_joins_206 rfl rfl ?_
                refine tr_getK (k := 34) q494 d_TrustDeskModel_joins_207 f_TrustDeskModel_69_13 ?_
                refine mv_iload_n d_TrustDeskModel_joins_210 rfl rfl ?_
                refine tr_ialdR (o := o0) (k := 34) I482 q494 t_a495 (by decide) d_TrustDeskModel_joins_211 (vp_in_iff.mpr (by have := R484.1 32 _ _ rfl; omega)) (fun v498 e499 => ?_)
                have := R484.a (k := 34) rfl (x1 : Int32).toNatClampNeg
                refine mv_iadd d_TrustDeskModel_joins_212 ?_
                have b500 : (v496 + v498 : Int32).toInt = (v496.toInt + v498.toInt) := mz_add2 rfl rfl (by have := R484.1 32 _ _ rfl; omega) (by have := R484.1 32 _ _ rfl; omega)
                obtain ⟨v501, b502, _, _, _⟩ := mz_min9 99999 (v496 + v498)
                have : (99999 : Int32).toInt = 99999 := by decide
                refine mv_mmin (v := v501) d_TrustDeskModel_joins_213 (mj_in1 (List.mem_of_getElem? (i := 1992) (by decide +kernel)) rfl) (Nat.le_of_ble_eq_true rfl) b502 ?_
                refine tr_iastR (k := 34) I482 R484 (I482.up h_o0) q494 t_a495 (by decide) (by decide) (fun lo hi h => by cases h; have := R484.1 32 _ _ rfl; exact ⟨by show (0 : Int) ≤ v501.toInt; omega, by show v501.toInt ≤ (99999 : Int); omega⟩) (Or.inl (by decide)) d_TrustDeskModel_joins_216 (vp_in_iff.mpr (by have := R484.1 32 _ _ rfl; omega)) (fun M503 I504 K505 R506 E507 A508 V509 => ?_)
                have z510 := (V509 32).trans z488
                have z511 := (A508 43 (by decide) rfl x2.toNatClampNeg).trans z489
                have K512 : rC M503 o0 44 := K490.same (sA_a A508 (by decide +kernel)) (sF_a V509)
                have K513 : ∀ i : Nat, i ≠ x2.toNatClampNeg → ra M503 o0 43 i = ra M0 o0 43 i := (by have e9 := ((sA_a A508 (by decide +kernel)) : sA [43] _ _ _) 43 rfl; rw [e9]; exact K491)
                have K514 : sA [37] M0 M503 o0 := K492.trans (sA_a A508 (by decide +kernel))
                have K515 : sm (ra M503 o0 41) (12 * x2.toNatClampNeg) 12 = 1000000 ∧ ∀ i : Nat, ¬ (12 * x2.toNatClampNeg ≤ i ∧ (i : Int) < 12 * x2.toNatClampNeg + 12) → ra M503 o0 41 i = ra M0 o0 41 i := (by have e9 := ((sA_a A508 (by decide +kernel)) : sA [41] _ _ _) 41 rfl; rw [e9]; exact K493)
                clear z488 z489
                refine mv_aload_n d_TrustDeskModel_joins_217 rfl rfl ?_
                obtain ⟨a517, q516, t_a517⟩ := tm_atR I504 t461 (k := 36) rfl
                refine tr_getK q516 d_TrustDeskModel_joins_218 f_TrustDeskModel_76_13 ?_
                refine mv_iload_n d_TrustDeskModel_joins_221 rfl rfl ?_
                refine mv_dup2_11 d_TrustDeskModel_joins_222 rfl rfl ?_
                refine tr_ialdR (o := o0) (k := 36) I504 q516 t_a517 (by decide) d_TrustDeskModel_joins_223 (vp_in_iff.mpr (by have := R506.1 32 _ _ rfl; omega)) (fun v518 e519 => ?_)
                refine mv_aload_n d_TrustDeskModel_joins_224 rfl rfl ?_
                refine tr_getK (k := 36) q516 d_TrustDeskModel_joins_225 f_TrustDeskModel_76_13 ?_
                refine mv_iload_n d_TrustDeskModel_joins_228 rfl rfl ?_
                refine tr_ialdR (o := o0) (k := 36) I504 q516 t_a517 (by decide) d_TrustDeskModel_joins_229 (vp_in_iff.mpr (by have := R506.1 32 _ _ rfl; omega)) (fun v520 e521 => ?_)
                refine mv_iand d_TrustDeskModel_joins_230 ?_
                refine tr_iastR (k := 36) I504 R506 (I504.up h_o0) q516 t_a517 (by decide) (by decide) (fun lo hi h => by cases h) (Or.inl (by decide)) d_TrustDeskModel_joins_231 (vp_in_iff.mpr (by have := R506.1 32 _ _ rfl; omega)) (fun M522 I523 K524 R525 E526 A527 V528 => ?_)
                have z529 := (V528 32).trans z510
                have z530 := (A527 43 (by decide) rfl x2.toNatClampNeg).trans z511
                have K531 : rC M522 o0 44 := K512.same (sA_a A527 (by decide +kernel)) (sF_a V528)
                have K532 : ∀ i : Nat, i ≠ x2.toNatClampNeg → ra M522 o0 43 i = ra M0 o0 43 i := (by have e9 := ((sA_a A527 (by decide +kernel)) : sA [43] _ _ _) 43 rfl; rw [e9]; exact K513)
                have K533 : sA [37] M0 M522 o0 := K514.trans (sA_a A527 (by decide +kernel))
                have K534 : sm (ra M522 o0 41) (12 * x2.toNatClampNeg) 12 = 1000000 ∧ ∀ i : Nat, ¬ (12 * x2.toNatClampNeg ≤ i ∧ (i : Int) < 12 * x2.toNatClampNeg + 12) → ra M522 o0 41 i = ra M0 o0 41 i := (by have e9 := ((sA_a A527 (by decide +kernel)) : sA [41] _ _ _) 41 rfl; rw [e9]; exact K515)
                clear z510 z511
                refine mv_iconst (v := 0) d_TrustDeskModel_joins_232 (by decide) ?_
                refine mv_istore (lv' := [(9, .int 0), (8, .int i8_416), (7, .int i7_407), (5, .long 1), (3, .long 1), (0, .ref o0), (1, .int x1), (2, .int x2)]) d_TrustDeskModel_joins_233 (by decide) rfl ?_
                have L235_535 : ∀ (k : Nat) (i9_535 : Int32) (T_535 : tm_H) (M_535 : mj_M) (n_535 : Nat), tm_I tm_FT (tm_in w_TrustDeskModel_joins_x) x9 T0 M0 n0 T_535 M_535 n_535 → T_535 o0 = some (0, 13, 0) → 0 ≤ i9_535.toInt → rv M_535 o0 32 = rv M0 o0 32 → ra M0 o0 43 x2.toNatClampNeg ≤ ra M_535 o0 43 x2.toNatClampNeg → ra M_535 o0 43 x2.toNatClampNeg ≤ ra M0 o0 43 x2.toNatClampNeg + i9_535.toInt → i9_535.toInt ≤ ra M0 o0 43 x1.toNatClampNeg → (rI M_535 o0) → (rC M_535 o0 44) → (∀ i : Nat, i ≠ x2.toNatClampNeg → ra M_535 o0 43 i = ra M0 o0 43 i) → (sA [37] M0 M_535 o0) → (sm (ra M_535 o0 41) (12 * x2.toNatClampNeg) 12 = 1000000 ∧ ∀ i : Nat, ¬ (12 * x2.toNatClampNeg ≤ i ∧ (i : Int) < 12 * x2.toNatClampNeg + 12) → ra M_535 o0 41 i = ra M0 o0 41 i) → 2147483647 - i9_535.toInt < (k : Int) → mj_V g l kY_TrustDeskModel_joins (d + 3) 235 [(9, .int i9_535), (8, .int i8_416), (7, .int i7_407), (5, .long 1), (3, .long 1), (0, .ref o0), (1, .int x1), (2, .int x2)] [] M_535 n_535 0 0 (tm_Q tm_FT (tm_in w_TrustDeskModel_joins_x) x9 T0 M0 n0 (fun r _ M => r = none ∧ rI M o0 ∧ (rC M o0 44) ∧ (rP M o0) ∧ (rB M o0 12))) := by
                  intro k535
                  induction k535 with
                  | zero =>
                    intro i9_535 T_535 M_535 n_535 I_535 h_q0_535 iv0_535 iv1_535 iv2_535 iv3_535 iv4_535 kKR_535 kKC_535 kK43x_535 kKT37_535 kKPE_535 hk535
                    have := mz_hi i9_535
                    have := kKR_535.1 15 _ _ rfl
                    have := kKR_535.1 16 _ _ rfl
                    have := kKR_535.1 19 _ _ rfl
                    omega
                  | succ k535 ih535 =>
                    intro i9_535 T_535 M_535 n_535 I_535 h_q0_535 iv0_535 iv1_535 iv2_535 iv3_535 iv4_535 kKR_535 kKC_535 kK43x_535 kKT37_535 kKPE_535 hk535
                    have := kK43x_535 x1.toNatClampNeg (by omega)
                    refine mv_iload d_TrustDeskModel_joins_235 rfl ?_
                    refine mv_aload_n d_TrustDeskModel_joins_237 rfl rfl ?_
                    obtain ⟨a537, q536, t_a537⟩ := tm_atR I_535 h_q0_535 (k := 43) rfl
                    refine tr_getK q536 d_TrustDeskModel_joins_238 f_TrustDeskModel_98_13 ?_
                    refine mv_iload_n d_TrustDeskModel_joins_241 rfl rfl ?_
                    refine tr_ialdR (o := o0) (k := 43) I_535 q536 t_a537 (by decide) d_TrustDeskModel_joins_242 (vp_in_iff.mpr (by have := kKR_535.1 32 _ _ rfl; omega)) (fun v538 e539 => ?_)
                    have := kKR_535.a (k := 43) rfl (x1 : Int32).toNatClampNeg
                    have := mz_hi i9_535
                    have := mz_hi v538
                    refine mv_icmp_geZ (tgt := 320) (a := i9_535.toInt) (b := v538.toInt) d_TrustDeskModel_joins_243 (by decide) rfl rfl (fun b540 => ?_) (fun b540 => ?_)
                    · refine mv_aload_n d_TrustDeskModel_joins_320 rfl rfl ?_
                      obtain ⟨a542, q541, t_a542⟩ := tm_atR I_535 h_q0_535 (k := 35) rfl
                      refine tr_getK q541 d_TrustDeskModel_joins_321 f_TrustDeskModel_72_13 ?_
                      refine mv_iload_n d_TrustDeskModel_joins_324 rfl rfl ?_
                      refine mv_lconst (v := 0) d_TrustDeskModel_joins_325 (by decide) ?_
                      refine tr_lastR (k := 35) I_535 kKR_535 (I_535.up h_o0) q541 t_a542 (by decide) (by decide) (fun lo hi h => by cases h; have e9 : (0 : Int64).toInt = 0 := (by decide); exact ⟨by show (0 : Int) ≤ (0 : Int64).toInt; omega, by show (0 : Int64).toInt ≤ (1000000000000000 : Int); omega⟩) (Or.inl (by decide)) d_TrustDeskModel_joins_326 (vp_in_iff.mpr (by have := kKR_535.1 32 _ _ rfl; omega)) (fun M543 I544 K545 R546 E547 A548 V549 => ?_)
                      have z550 := (V549 32)
                      have z551 := (A548 43 (by decide) rfl x2.toNatClampNeg)
                      have K552 : rC M543 o0 44 := kKC_535.same (sA_a A548 (by decide +kernel)) (sF_a V549)
                      have K553 : ∀ i : Nat, i ≠ x2.toNatClampNeg → ra M543 o0 43 i = ra M0 o0 43 i := (by have e9 := ((sA_a A548 (by decide +kernel)) : sA [43] _ _ _) 43 rfl; rw [e9]; exact kK43x_535)
                      have K554 : sA [37] M0 M543 o0 := kKT37_535.trans (sA_a A548 (by decide +kernel))
                      have K555 : sm (ra M543 o0 41) (12 * x2.toNatClampNeg) 12 = 1000000 ∧ ∀ i : Nat, ¬ (12 * x2.toNatClampNeg ≤ i ∧ (i : Int) < 12 * x2.toNatClampNeg + 12) → ra M543 o0 41 i = ra M0 o0 41 i := (by have e9 := ((sA_a A548 (by decide +kernel)) : sA [41] _ _ _) 41 rfl; rw [e9]; exact kKPE_535)
                      refine mv_aload_n d_TrustDeskModel_joins_327 rfl rfl ?_
                      obtain ⟨a557, q556, t_a557⟩ := tm_atR I544 h_q0_535 (k := 33) rfl
                      refine tr_getK q556 d_TrustDeskModel_joins_328 f_TrustDeskModel_66_13 ?_
                      refine mv_iload_n d_TrustDeskModel_joins_331 rfl rfl ?_
                      refine mv_iconst (v := 0) d_TrustDeskModel_joins_332 (by decide) ?_
                      refine tr_iastR (k := 33) I544 R546 (I544.up h_o0) q556 t_a557 (by decide) (by decide) (fun lo hi h => by cases h; have e9 : (0 : Int32).toInt = 0 := (by decide); exact ⟨by show (0 : Int) ≤ (0 : Int32).toInt; omega, by show (0 : Int32).toInt ≤ (999 : Int); omega⟩) (Or.inl (by decide)) d_TrustDeskModel_joins_333 (vp_in_iff.mpr (by have := R546.1 32 _ _ rfl; omega)) (fun M558 I559 K560 R561 E562 A563 V564 => ?_)
                      have z565 := (V564 32).trans z550
                      have z566 := (A563 43 (by decide) rfl x2.toNatClampNeg).trans z551
                      have K567 : rC M558 o0 44 := K552.same (sA_a A563 (by decide +kernel)) (sF_a V564)
                      have K568 : ∀ i : Nat, i ≠ x2.toNatClampNeg → ra M558 o0 43 i = ra M0 o0 43 i := (by have e9 := ((sA_a A563 (by decide +kernel)) : sA [43] _ _ _) 43 rfl; rw [e9]; exact K553)
                      have K569 : sA [37] M0 M558 o0 := K554.trans (sA_a A563 (by decide +kernel))
                      have K570 : sm (ra M558 o0 41) (12 * x2.toNatClampNeg) 12 = 1000000 ∧ ∀ i : Nat, ¬ (12 * x2.toNatClampNeg ≤ i ∧ (i : Int) < 12 * x2.toNatClampNeg + 12) → ra M558 o0 41 i = ra M0 o0 41 i := (by have e9 := ((sA_a A563 (by decide +kernel)) : sA [41] _ _ _) 41 rfl; rw [e9]; exact K555)
                      clear z550 z551
                      refine mv_aload_n d_TrustDeskModel_joins_334 rfl rfl ?_
                      obtain ⟨a572, q571, t_a572⟩ := tm_atR I559 h_q0_535 (k := 34) rfl
                      refine tr_getK q571 d_TrustDeskModel_joins_335 f_TrustDeskModel_69_13 ?_
                      refine mv_iload_n d_TrustDeskModel_joins_338 rfl rfl ?_
                      refine mv_iconst (v := 0) d_TrustDeskModel_joins_339 (by decide) ?_
                      refine tr_iastR (k := 34) I559 R561 (I559.up h_o0) q571 t_a572 (by decide) (by decide) (fun lo hi h => by cases h; have e9 : (0 : Int32).toInt = 0 := (by decide); exact ⟨by show (0 : Int) ≤ (0 : Int32).toInt; omega, by show (0 : Int32).toInt ≤ (99999 : Int); omega⟩) (Or.inl (by decide)) d_TrustDeskModel_joins_340 (vp_in_iff.mpr (by have := R561.1 32 _ _ rfl; omega)) (fun M573 I574 K575 R576 E577 A578 V579 => ?_)
                      have z580 := (V579 32).trans z565
                      have z581 := (A578 43 (by decide) rfl x2.toNatClampNeg).trans z566
                      have K582 : rC M573 o0 44 := K567.same (sA_a A578 (by decide +kernel)) (sF_a V579)
                      have K583 : ∀ i : Nat, i ≠ x2.toNatClampNeg → ra M573 o0 43 i = ra M0 o0 43 i := (by have e9 := ((sA_a A578 (by decide +kernel)) : sA [43] _ _ _) 43 rfl; rw [e9]; exact K568)
                      have K584 : sA [37] M0 M573 o0 := K569.trans (sA_a A578 (by decide +kernel))
                      have K585 : sm (ra M573 o0 41) (12 * x2.toNatClampNeg) 12 = 1000000 ∧ ∀ i : Nat, ¬ (12 * x2.toNatClampNeg ≤ i ∧ (i : Int) < 12 * x2.toNatClampNeg + 12) → ra M573 o0 41 i = ra M0 o0 41 i := (by have e9 := ((sA_a A578 (by decide +kernel)) : sA [41] _ _ _) 41 rfl; rw [e9]; exact K570)
                      clear z565 z566
                      refine mv_aload_n d_TrustDeskModel_joins_341 rfl rfl ?_
                      obtain ⟨a587, q586, t_a587⟩ := tm_atR I574 h_q0_535 (k := 37) rfl
                      refine tr_getK q586 d_TrustDeskModel_joins_342 f_TrustDeskModel_79_13 ?_
                      refine mv_iload_n d_TrustDeskModel_joins_345 rfl rfl ?_
                      refine mv_iload_n d_TrustDeskModel_joins_346 rfl rfl ?_
                      refine tr_iastR (k := 37) I574 R576 (I574.up h_o0) q586 t_a587 (by decide) (by decide) (fun lo hi h => by cases h; have := R576.1 32 _ _ rfl; exact ⟨by show ((-1) : Int) ≤ x2.toInt; omega, by show x2.toInt ≤ (11 : Int); omega⟩) (Or.inl (by decide)) d_TrustDeskModel_joins_347 (vp_in_iff.mpr (by have := R576.1 32 _ _ rfl; omega)) (fun M588 I589 K590 R591 E592 A593 V594 => ?_)
                      have z595 := (V594 32).trans z580
                      have z596 := (A593 43 (by decide) rfl x2.toNatClampNeg).trans z581
                      have K597 : rC M588 o0 44 := K582.same (sA_a A593 (by decide +kernel)) (sF_a V594)
                      have K598 : ∀ i : Nat, i ≠ x2.toNatClampNeg → ra M588 o0 43 i = ra M0 o0 43 i := (by have e9 := ((sA_a A593 (by decide +kernel)) : sA [43] _ _ _) 43 rfl; rw [e9]; exact K583)
                      have K599 : sm (ra M588 o0 41) (12 * x2.toNatClampNeg) 12 = 1000000 ∧ ∀ i : Nat, ¬ (12 * x2.toNatClampNeg ≤ i ∧ (i : Int) < 12 * x2.toNatClampNeg + 12) → ra M588 o0 41 i = ra M0 o0 41 i := (by have e9 := ((sA_a A593 (by decide +kernel)) : sA [41] _ _ _) 41 rfl; rw [e9]; exact K585)
                      have h600 := rPB.join (M := M588) (X := x2.toNatClampNeg) (F := x1.toNatClampNeg) (x9 := x2.toInt) yP yB ⟨by omega, by omega, yfx.2.2.2.2.2.2⟩ ⟨by omega, by omega, yfx.2.2.2.2.2.1⟩ (by omega) (fun i hi => (A593 43 (by decide) rfl i).trans (K583 i hi)) (by omega) (fun i => (E592 i).trans (by rw [K584 37 rfl])) (by omega) (fun i hi => (A593 41 (by decide) rfl i).trans (K585.2 i hi)) (by rw [show ra M588 o0 41 = ra M573 o0 41 from funext fun i => A593 41 (by decide) rfl i]; exact K585.1) (by omega)
                      have K601 : rP M588 o0 := h600.1
                      have K602 : rB M588 o0 12 := h600.2
                      clear z580 z581
                      refine mv_iconst (v := 0) d_TrustDeskModel_joins_348 (by decide) ?_
                      refine mv_istore (lv' := [(9, .int 0), (8, .int i8_416), (7, .int i7_407), (5, .long 1), (3, .long 1), (0, .ref o0), (1, .int x1), (2, .int x2)]) d_TrustDeskModel_joins_349 (by decide) rfl ?_
                      have L351_603 : ∀ (k : Nat) (i9_603 : Int32) (T_603 : tm_H) (M_603 : mj_M) (n_603 : Nat), tm_I tm_FT (tm_in w_TrustDeskModel_joins_x) x9 T0 M0 n0 T_603 M_603 n_603 → T_603 o0 = some (0, 13, 0) → 0 ≤ i9_603.toInt → rv M_603 o0 32 = rv M0 o0 32 → (rI M_603 o0) → (rC M_603 o0 44) → (rP M_603 o0) → (rB M_603 o0 12) → 2147483647 - i9_603.toInt < (k : Int) → mj_V g l kY_TrustDeskModel_joins (d + 3) 351 [(9, .int i9_603), (8, .int i8_416), (7, .int i7_407), (5, .long 1), (3, .long 1), (0, .ref o0), (1, .int x1), (2, .int x2)] [] M_603 n_603 0 0 (tm_Q tm_FT (tm_in w_TrustDeskModel_joins_x) x9 T0 M0 n0 (fun r _ M => r = none ∧ rI M o0 ∧ (rC M o0 44) ∧ (rP M o0) ∧ (rB M o0 12))) := by
                        intro k603
                        induction k603 with
                        | zero =>
                          intro i9_603 T_603 M_603 n_603 I_603 h_q0_603 iv0_603 iv1_603 kKR_603 kKC_603 kKP_603 kKB_603 hk603
                          have := mz_hi i9_603
                          have := kKR_603.1 15 _ _ rfl
                          have := kKR_603.1 16 _ _ rfl
                          have := kKR_603.1 19 _ _ rfl
                          omega
                        | succ k603 ih603 =>
                          intro i9_603 T_603 M_603 n_603 I_603 h_q0_603 iv0_603 iv1_603 kKR_603 kKC_603 kKP_603 kKB_603 hk603
                          refine mv_iload d_TrustDeskModel_joins_351 rfl ?_
                          refine mv_bipush (v := 100) d_TrustDeskModel_joins_353 (by decide) ?_
                          have := mz_hi i9_603
                          refine mv_icmp_geZ (tgt := 377) (a := i9_603.toInt) (b := 100) d_TrustDeskModel_joins_355 (by decide) rfl (by decide) (fun b604 => ?_) (fun b604 => ?_)
                          · exact mv_vret d_TrustDeskModel_joins_377 rfl ⟨_, I_603, rfl, kKR_603, kKC_603, kKP_603, kKB_603⟩
                          · refine mv_aload_n d_TrustDeskModel_joins_358 rfl rfl ?_
                            obtain ⟨a606, q605, t_a606⟩ := tm_atR I_603 h_q0_603 (k := 40) rfl
                            refine tr_getK q605 d_TrustDeskModel_joins_359 f_TrustDeskModel_88_13 ?_
                            refine mv_bipush (v := 100) d_TrustDeskModel_joins_362 (by decide) ?_
                            refine mv_iload_n d_TrustDeskModel_joins_364 rfl rfl ?_
                            refine mv_imul d_TrustDeskModel_joins_365 ?_
                            refine mv_iload d_TrustDeskModel_joins_366 rfl ?_
                            refine mv_iadd d_TrustDeskModel_joins_368 ?_
                            refine mv_iconst (v := 0) d_TrustDeskModel_joins_369 (by decide) ?_
                            have b607 : (100 * x1 : Int32).toInt = (100 * x1.toInt) := mz_mul2 (by decide) rfl (by have := kKR_603.1 32 _ _ rfl; omega) (by have := kKR_603.1 32 _ _ rfl; omega)
                            have b608 : ((100 * x1) + i9_603 : Int32).toInt = ((100 * x1.toInt) + i9_603.toInt) := mz_add2 b607 rfl (by have := kKR_603.1 32 _ _ rfl; omega) (by have := kKR_603.1 32 _ _ rfl; omega)
                            refine tr_zastR (k := 40) I_603 kKR_603 (I_603.up h_o0) q605 t_a606 (by decide) (by decide) rfl (Or.inl (by decide)) d_TrustDeskModel_joins_370 (vp_in_iff.mpr (by have := kKR_603.1 32 _ _ rfl; omega)) (fun M609 I610 K611 R612 A614 V615 => ?_)
                            have z616 := (V615 32)
                            have z617 := (A614 43 (by decide) rfl x2.toNatClampNeg)
                            have K618 : rC M609 o0 44 := kKC_603.same (sA_a A614 (by decide +kernel)) (sF_a V615)
                            have K619 : rP M609 o0 := kKP_603.same (sA_a A614 (by decide +kernel)) (sF_a V615)
                            have K620 : rB M609 o0 12 := kKB_603.same (sA_a A614 (by decide +kernel)) (sF_a V615)
                            refine mv_iinc (v := (i9_603 + 1)) (lv' := [(9, .int (i9_603 + 1)), (8, .int i8_416), (7, .int i7_407), (5, .long 1), (3, .long 1), (0, .ref o0), (1, .int x1), (2, .int x2)]) d_TrustDeskModel_joins_371 rfl rfl (by decide) rfl ?_
                            refine mv_goto (tgt := 351) d_TrustDeskModel_joins_374 (by decide) ?_
                            have b621 : (i9_603 + 1 : Int32).toInt = (i9_603.toInt + 1) := mz_add2 rfl (by decide) (by have := R612.1 32 _ _ rfl; omega) (by have := R612.1 32 _ _ rfl; omega)
                            have b622 : (i9_603 + 1).toInt = i9_603.toInt + 1 := mz_addn 1 1 (by decide) (by have := mz_lo i9_603; omega) (by have := mz_hi i9_603; omega)
                            exact (ih603 (i9_603 + 1) T_603 M609 n_603 I610 h_q0_603 (by have := R612.1 32 _ _ rfl; first | omega | decide | exact fun h9 => absurd (by decide) h9) (by have := R612.1 32 _ _ rfl; first | omega | decide | exact fun h9 => absurd (by decide) h9) R612 K618 K619 K620 (by have := R612.1 32 _ _ rfl; omega))
                      have : (0 : Int32).toInt = 0 := by decide
                      exact mv_less (Nat.zero_le _) (Nat.zero_le _) (L351_603 4294967296 0 T_535 M588 n_535 I589 h_q0_535 (by have := R591.1 32 _ _ rfl; first | omega | decide | exact fun h9 => absurd (by decide) h9) (by have := R591.1 32 _ _ rfl; first | omega | decide | exact fun h9 => absurd (by decide) h9) R591 K597 K601 K602 (by show (2147483647 - (0 : Int) : Int) < _; decide))
                    · refine mv_bipush (v := 80) d_TrustDeskModel_joins_246 (by decide) ?_
                      refine mv_iload_n d_TrustDeskModel_joins_248 rfl rfl ?_
                      refine mv_imul d_TrustDeskModel_joins_249 ?_
                      refine mv_iload d_TrustDeskModel_joins_250 rfl ?_
                      refine mv_iadd d_TrustDeskModel_joins_252 ?_
                      refine mv_istore (lv' := [(10, .int ((80 * x1) + i9_535)), (9, .int i9_535), (8, .int i8_416), (7, .int i7_407), (5, .long 1), (3, .long 1), (0, .ref o0), (1, .int x1), (2, .int x2)]) d_TrustDeskModel_joins_253 (by decide) rfl ?_
                      refine mv_aload_n d_TrustDeskModel_joins_255 rfl rfl ?_
                      obtain ⟨a624, q623, t_a624⟩ := tm_atR I_535 h_q0_535 (k := 46) rfl
                      refine tr_getK q623 d_TrustDeskModel_joins_256 f_TrustDeskModel_107_13 ?_
                      refine mv_iload d_TrustDeskModel_joins_259 rfl ?_
                      have b625 : (80 * x1 : Int32).toInt = (80 * x1.toInt) := mz_mul2 (by decide) rfl (by have := kKR_535.1 32 _ _ rfl; omega) (by have := kKR_535.1 32 _ _ rfl; omega)
                      have b626 : ((80 * x1) + i9_535 : Int32).toInt = ((80 * x1.toInt) + i9_535.toInt) := mz_add2 b625 rfl (by have := kKR_535.1 32 _ _ rfl; omega) (by have := kKR_535.1 32 _ _ rfl; omega)
                      refine tr_ialdR (o := o0) (k := 46) I_535 q623 t_a624 (by decide) d_TrustDeskModel_joins_261 (vp_in_iff.mpr (by have := kKR_535.1 32 _ _ rfl; omega)) (fun v627 e628 => ?_)
                      refine mv_iconst (v := 2) d_TrustDeskModel_joins_262 (by decide) ?_
                      have := mz_hi v627
                      refine mv_icmp_eqZ (tgt := 306) (a := v627.toInt) (b := 2) d_TrustDeskModel_joins_263 (by decide) rfl (by decide) (fun b629 => ?_) (fun b629 => ?_)
                      · refine mv_aload_n d_TrustDeskModel_joins_306 rfl rfl ?_
                        refine tr_getK (k := 46) q623 d_TrustDeskModel_joins_307 f_TrustDeskModel_107_13 ?_
                        refine mv_iload d_TrustDeskModel_joins_310 rfl ?_
                        refine mv_iconst (v := 2) d_TrustDeskModel_joins_312 (by decide) ?_
                        have b630 : (80 * x1 : Int32).toInt = (80 * x1.toInt) := mz_mul2 (by decide) rfl (by have := kKR_535.1 32 _ _ rfl; omega) (by have := kKR_535.1 32 _ _ rfl; omega)
                        have b631 : ((80 * x1) + i9_535 : Int32).toInt = ((80 * x1.toInt) + i9_535.toInt) := mz_add2 b630 rfl (by have := kKR_535.1 32 _ _ rfl; omega) (by have := kKR_535.1 32 _ _ rfl; omega)
                        refine tr_iastR (k := 46) I_535 kKR_535 (I_535.up h_o0) q623 t_a624 (by decide) (by decide) (fun lo hi h => by cases h) (Or.inl (by decide)) d_TrustDeskModel_joins_313 (vp_in_iff.mpr (by have := kKR_535.1 32 _ _ rfl; omega)) (fun M632 I633 K634 R635 E636 A637 V638 => ?_)
                        have z639 := (V638 32)
                        have z640 := (A637 43 (by decide) rfl x2.toNatClampNeg)
                        have K641 : rC M632 o0 44 := kKC_535.same (sA_a A637 (by decide +kernel)) (sF_a V638)
                        have K642 : ∀ i : Nat, i ≠ x2.toNatClampNeg → ra M632 o0 43 i = ra M0 o0 43 i := (by have e9 := ((sA_a A637 (by decide +kernel)) : sA [43] _ _ _) 43 rfl; rw [e9]; exact kK43x_535)
                        have K643 : sA [37] M0 M632 o0 := kKT37_535.trans (sA_a A637 (by decide +kernel))
                        have K644 : sm (ra M632 o0 41) (12 * x2.toNatClampNeg) 12 = 1000000 ∧ ∀ i : Nat, ¬ (12 * x2.toNatClampNeg ≤ i ∧ (i : Int) < 12 * x2.toNatClampNeg + 12) → ra M632 o0 41 i = ra M0 o0 41 i := (by have e9 := ((sA_a A637 (by decide +kernel)) : sA [41] _ _ _) 41 rfl; rw [e9]; exact kKPE_535)
                        refine mv_iinc (v := (i9_535 + 1)) (lv' := [(9, .int (i9_535 + 1)), (10, .int ((80 * x1) + i9_535)), (8, .int i8_416), (7, .int i7_407), (5, .long 1), (3, .long 1), (0, .ref o0), (1, .int x1), (2, .int x2)]) d_TrustDeskModel_joins_314 rfl rfl (by decide) rfl ?_
                        refine mv_goto (tgt := 235) d_TrustDeskModel_joins_317 (by decide) ?_
                        have b645 : (i9_535 + 1 : Int32).toInt = (i9_535.toInt + 1) := mz_add2 rfl (by decide) (by have := R635.1 32 _ _ rfl; omega) (by have := R635.1 32 _ _ rfl; omega)
                        refine mv_locals (lv' := [(9, .int (i9_535 + 1)), (8, .int i8_416), (7, .int i7_407), (5, .long 1), (3, .long 1), (0, .ref o0), (1, .int x1), (2, .int x2)]) (by intro q hq; simp only [List.mem_cons, List.not_mem_nil, or_false] at hq; rcases hq with rfl | rfl | rfl | rfl | rfl | rfl | rfl | rfl <;> rfl) ?_
                        have b646 : (i9_535 + 1).toInt = i9_535.toInt + 1 := mz_addn 1 1 (by decide) (by have := mz_lo i9_535; omega) (by have := mz_hi i9_535; omega)
                        exact (ih535 (i9_535 + 1) T_535 M632 n_535 I633 h_q0_535 (by have := R635.1 32 _ _ rfl; first | omega | decide | exact fun h9 => absurd (by decide) h9) (by have := R635.1 32 _ _ rfl; first | omega | decide | exact fun h9 => absurd (by decide) h9) (by have := R635.1 32 _ _ rfl; first | omega | decide | exact fun h9 => absurd (by decide) h9) (by have := R635.1 32 _ _ rfl; first | omega | decide | exact fun h9 => absurd (by decide) h9) (by have := R635.1 32 _ _ rfl; first | omega | decide | exact fun h9 => absurd (by decide) h9) R635 K641 K642 K643 K644 (by have := R635.1 32 _ _ rfl; omega))
                      · refine mv_aload_n d_TrustDeskModel_joins_266 rfl rfl ?_
                        refine mv_iload_n d_TrustDeskModel_joins_267 rfl rfl ?_
                        refine mv_aload_n d_TrustDeskModel_joins_268 rfl rfl ?_
                        obtain ⟨a648, q647, t_a648⟩ := tm_atR I_535 h_q0_535 (k := 44) rfl
                        refine tr_getK q647 d_TrustDeskModel_joins_269 f_TrustDeskModel_101_13 ?_
                        refine mv_iload d_TrustDeskModel_joins_272 rfl ?_
                        have b649 : (80 * x1 : Int32).toInt = (80 * x1.toInt) := mz_mul2 (by decide) rfl (by have := kKR_535.1 32 _ _ rfl; omega) (by have := kKR_535.1 32 _ _ rfl; omega)
                        have b650 : ((80 * x1) + i9_535 : Int32).toInt = ((80 * x1.toInt) + i9_535.toInt) := mz_add2 b649 rfl (by have := kKR_535.1 32 _ _ rfl; omega) (by have := kKR_535.1 32 _ _ rfl; omega)
                        refine tr_ialdR (o := o0) (k := 44) I_535 q647 t_a648 (by decide) d_TrustDeskModel_joins_274 (vp_in_iff.mpr (by have := kKR_535.1 32 _ _ rfl; omega)) (fun v651 e652 => ?_)
                        have := kKR_535.a (k := 44) rfl (((80 * x1) + i9_535) : Int32).toNatClampNeg
                        refine mv_aload_n d_TrustDeskModel_joins_275 rfl rfl ?_
                        obtain ⟨a654, q653, t_a654⟩ := tm_atR I_535 h_q0_535 (k := 45) rfl
                        refine tr_getK q653 d_TrustDeskModel_joins_276 f_TrustDeskModel_104_13 ?_
                        refine mv_iload d_TrustDeskModel_joins_279 rfl ?_
                        have b655 : (80 * x1 : Int32).toInt = (80 * x1.toInt) := mz_mul2 (by decide) rfl (by have := kKR_535.1 32 _ _ rfl; omega) (by have := kKR_535.1 32 _ _ rfl; omega)
                        have b656 : ((80 * x1) + i9_535 : Int32).toInt = ((80 * x1.toInt) + i9_535.toInt) := mz_add2 b655 rfl (by have := kKR_535.1 32 _ _ rfl; omega) (by have := kKR_535.1 32 _ _ rfl; omega)
                        refine tr_ialdR (o := o0) (k := 45) I_535 q653 t_a654 (by decide) d_TrustDeskModel_joins_281 (vp_in_iff.mpr (by have := kKR_535.1 32 _ _ rfl; omega)) (fun v657 e658 => ?_)
                        have := kKR_535.a (k := 45) rfl (((80 * x1) + i9_535) : Int32).toNatClampNeg
                        refine mv_aload_n d_TrustDeskModel_joins_282 rfl rfl ?_
                        refine tr_getK (k := 46) q623 d_TrustDeskModel_joins_283 f_TrustDeskModel_107_13 ?_
                        refine mv_iload d_TrustDeskModel_joins_286 rfl ?_
                        have b659 : (80 * x1 : Int32).toInt = (80 * x1.toInt) := mz_mul2 (by decide) rfl (by have := kKR_535.1 32 _ _ rfl; omega) (by have := kKR_535.1 32 _ _ rfl; omega)
                        have b660 : ((80 * x1) + i9_535 : Int32).toInt = ((80 * x1.toInt) + i9_535.toInt) := mz_add2 b659 rfl (by have := kKR_535.1 32 _ _ rfl; omega) (by have := kKR_535.1 32 _ _ rfl; omega)
                        refine tr_ialdR (o := o0) (k := 46) I_535 q623 t_a624 (by decide) d_TrustDeskModel_joins_288 (vp_in_iff.mpr (by have := kKR_535.1 32 _ _ rfl; omega)) (fun v661 e662 => ?_)
                        refine mv_aload_n d_TrustDeskModel_joins_289 rfl rfl ?_
                        obtain ⟨a664, q663, t_a664⟩ := tm_atR I_535 h_q0_535 (k := 47) rfl
                        refine tr_getK q663 d_TrustDeskModel_joins_290 f_TrustDeskModel_110_13 ?_
                        refine mv_iload d_TrustDeskModel_joins_293 rfl ?_
                        have b665 : (80 * x1 : Int32).toInt = (80 * x1.toInt) := mz_mul2 (by decide) rfl (by have := kKR_535.1 32 _ _ rfl; omega) (by have := kKR_535.1 32 _ _ rfl; omega)
                        have b666 : ((80 * x1) + i9_535 : Int32).toInt = ((80 * x1.toInt) + i9_535.toInt) := mz_add2 b665 rfl (by have := kKR_535.1 32 _ _ rfl; omega) (by have := kKR_535.1 32 _ _ rfl; omega)
                        refine tr_ialdR (o := o0) (k := 47) I_535 q663 t_a664 (by decide) d_TrustDeskModel_joins_295 (vp_in_iff.mpr (by have := kKR_535.1 32 _ _ rfl; omega)) (fun v667 e668 => ?_)
                        refine mv_aload_n d_TrustDeskModel_joins_296 rfl rfl ?_
                        obtain ⟨a670, q669, t_a670⟩ := tm_atR I_535 h_q0_535 (k := 48) rfl
                        refine tr_getK q669 d_TrustDeskModel_joins_297 f_TrustDeskModel_113_13 ?_
                        refine mv_iload d_TrustDeskModel_joins_300 rfl ?_
                        have b671 : (80 * x1 : Int32).toInt = (80 * x1.toInt) := mz_mul2 (by decide) rfl (by have := kKR_535.1 32 _ _ rfl; omega) (by have := kKR_535.1 32 _ _ rfl; omega)
                        have b672 : ((80 * x1) + i9_535 : Int32).toInt = ((80 * x1.toInt) + i9_535.toInt) := mz_add2 b671 rfl (by have := kKR_535.1 32 _ _ rfl; omega) (by have := kKR_535.1 32 _ _ rfl; omega)
                        refine tr_ialdR (o := o0) (k := 48) I_535 q669 t_a670 (by decide) d_TrustDeskModel_joins_302 (vp_in_iff.mpr (by have := kKR_535.1 32 _ _ rfl; omega)) (fun v673 e674 => ?_)
                        obtain ⟨_, b681, -⟩ := I_535.1 _ _ h_q0_535
                        refine mv_callV (kc' := 0) (ks' := 0) (As := [.int x2, .int v651, .int v657, .int v661, .int v667, .int v673]) (st9 := [.int v673, .int v667, .int v661, .int v657, .int v651, .int x2, .ref o0]) d_TrustDeskModel_joins_303 lV_TrustDeskModel_428 b681 rfl (tc_TrustDeskModel_addEnd_x (d := (d + 2)) (x9 := x9) (o0 := o0) (x1 := x2) (x2 := v651) (x3 := v657) (x4 := v661) (x5 := v667) (x6 := v673) h_q0_535 (by have := kKR_535.1 32 _ _ rfl; omega) (by have := kKR_535.1 32 _ _ rfl; omega) (by have := kKR_535.1 32 _ _ rfl; omega) kKR_535 (by have := kKR_535.1 32 _ _ rfl; omega) I_535.start) rfl (Nat.le_of_ble_eq_true rfl) (Nat.le_of_ble_eq_true rfl) (Nat.le_of_ble_eq_true rfl) (hst := rfl) (fun b675r M676 n677 b675 => ?_)
                        obtain ⟨T678, J679, rfl, R682, f683⟩ := b675
                        have I680 := I_535.call J679 (tm_sub (by decide)) (Or.inl rfl)
                        have t684 := J679.up h_q0_535
                        have z685 := (rv_c I_535 J679 (I_535.up h_o0) (k := 32) rfl)
                        obtain ⟨j686, h687, h688, h689⟩ := kKC_535.2.2.2.2 x1.toNatClampNeg i9_535.toInt.toNat (by have := mz_nat9 (i := x1) (by have := kKR_535.1 32 _ _ rfl; omega); omega) (by have := mz_nat9 (i := x1) (by have := kKR_535.1 32 _ _ rfl; omega); have := kKR_535.1 32 _ _ rfl; omega)
                        have h690 : 80 * x1.toNatClampNeg + i9_535.toInt.toNat = ((80 * x1) + i9_535).toNatClampNeg := by have := mz_nat9 (i := ((80 * x1) + i9_535)) (by have := kKR_535.1 32 _ _ rfl; omega); have := mz_nat9 (i := x1) (by have := kKR_535.1 32 _ _ rfl; omega); have := kKR_535.1 32 _ _ rfl; omega
                        rw [h690, ← e658] at h688 h689
                        rw [← e652] at h688
                        have K691 : rC M676 o0 44 := kKC_535.add kKR_535 f683 (by have := mz_nat9 (i := x2) (by have := kKR_535.1 32 _ _ rfl; omega); omega) j686 h687 h688 h689 (sA_c I_535 J679 (I_535.up h_o0) (by decide)) (sF_c I_535 J679 (I_535.up h_o0) (by decide))
                        have K692 : ∀ i : Nat, i ≠ x2.toNatClampNeg → ra M676 o0 43 i = ra M0 o0 43 i := fun i hi => by rw [f683.2.2 i, if_neg hi]; exact kK43x_535 i hi
                        have K693 : sA [37] M0 M676 o0 := kKT37_535.trans (sA_c I_535 J679 (I_535.up h_o0) (by decide +kernel))
                        have K694 : sm (ra M676 o0 41) (12 * x2.toNatClampNeg) 12 = 1000000 ∧ ∀ i : Nat, ¬ (12 * x2.toNatClampNeg ≤ i ∧ (i : Int) < 12 * x2.toNatClampNeg + 12) → ra M676 o0 41 i = ra M0 o0 41 i := (by have e9 := ((sA_c I_535 J679 (I_535.up h_o0) (by decide +kernel)) : sA [41] _ _ _) 41 rfl; rw [e9]; exact kKPE_535)
                        have := f683.2.2 x2.toNatClampNeg
                        rw [if_pos rfl] at this
                        have q695 := J679.keep h_q0_535 (by decide) q536
                        have t696 := J679.up t_a537
                        have q697 := J679.keep h_q0_535 (by decide) q623
                        have t698 := J679.up t_a624
                        have q699 := J679.keep h_q0_535 (by decide) q647
                        have t700 := J679.up t_a648
                        have q701 := J679.keep h_q0_535 (by decide) q653
                        have t702 := J679.up t_a654
                        have q703 := J679.keep h_q0_535 (by decide) q663
                        have t704 := J679.up t_a664
                        have q705 := J679.keep h_q0_535 (by decide) q669
                        have t706 := J679.up t_a670
                        refine mv_aload_n d_TrustDeskModel_joins_306 rfl rfl ?_
                        refine tr_getK (k := 46) q697 d_TrustDeskModel_joins_307 f_TrustDeskModel_107_13 ?_
                        refine mv_iload d_TrustDeskModel_joins_310 rfl ?_
                        refine mv_iconst (v := 2) d_TrustDeskModel_joins_312 (by decide) ?_
                        have b707 : (80 * x1 : Int32).toInt = (80 * x1.toInt) := mz_mul2 (by decide) rfl (by have := R682.1 32 _ _ rfl; omega) (by have := R682.1 32 _ _ rfl; omega)
                        have b708 : ((80 * x1) + i9_535 : Int32).toInt = ((80 * x1.toInt) + i9_535.toInt) := mz_add2 b707 rfl (by have := R682.1 32 _ _ rfl; omega) (by have := R682.1 32 _ _ rfl; omega)
                        refine tr_iastR (k := 46) I680 R682 (I680.up h_o0) q697 t698 (by decide) (by decide) (fun lo hi h => by cases h) (Or.inl (by decide)) d_TrustDeskModel_joins_313 (vp_in_iff.mpr (by have := R682.1 32 _ _ rfl; omega)) (fun M709 I710 K711 R712 E713 A714 V715 => ?_)
                        have z716 := (V715 32).trans z685
                        have z717 := (A714 43 (by decide) rfl x2.toNatClampNeg)
                        have K718 : rC M709 o0 44 := K691.same (sA_a A714 (by decide +kernel)) (sF_a V715)
                        have K719 : ∀ i : Nat, i ≠ x2.toNatClampNeg → ra M709 o0 43 i = ra M0 o0 43 i := (by have e9 := ((sA_a A714 (by decide +kernel)) : sA [43] _ _ _) 43 rfl; rw [e9]; exact K692)
                        have K720 : sA [37] M0 M709 o0 := K693.trans (sA_a A714 (by decide +kernel))
                        have K721 : sm (ra M709 o0 41) (12 * x2.toNatClampNeg) 12 = 1000000 ∧ ∀ i : Nat, ¬ (12 * x2.toNatClampNeg ≤ i ∧ (i : Int) < 12 * x2.toNatClampNeg + 12) → ra M709 o0 41 i = ra M0 o0 41 i := (by have e9 := ((sA_a A714 (by decide +kernel)) : sA [41] _ _ _) 41 rfl; rw [e9]; exact K694)
                        clear z685
                        refine mv_iinc (v := (i9_535 + 1)) (lv' := [(9, .int (i9_535 + 1)), (10, .int ((80 * x1) + i9_535)), (8, .int i8_416), (7, .int i7_407), (5, .long 1), (3, .long 1), (0, .ref o0), (1, .int x1), (2, .int x2)]) d_TrustDeskModel_joins_314 rfl rfl (by decide) rfl ?_
                        refine mv_goto (tgt := 235) d_TrustDeskModel_joins_317 (by decide) ?_
                        have b722 : (i9_535 + 1 : Int32).toInt = (i9_535.toInt + 1) := mz_add2 rfl (by decide) (by have := R712.1 32 _ _ rfl; omega) (by have := R712.1 32 _ _ rfl; omega)
                        refine mv_locals (lv' := [(9, .int (i9_535 + 1)), (8, .int i8_416), (7, .int i7_407), (5, .long 1), (3, .long 1), (0, .ref o0), (1, .int x1), (2, .int x2)]) (by intro q hq; simp only [List.mem_cons, List.not_mem_nil, or_false] at hq; rcases hq with rfl | rfl | rfl | rfl | rfl | rfl | rfl | rfl <;> rfl) ?_
                        have b723 : (i9_535 + 1).toInt = i9_535.toInt + 1 := mz_addn 1 1 (by decide) (by have := mz_lo i9_535; omega) (by have := mz_hi i9_535; omega)
                        exact (ih535 (i9_535 + 1) T678 M709 n677 I710 t684 (by have := R712.1 32 _ _ rfl; first | omega | decide | exact fun h9 => absurd (by decide) h9) (by have := R712.1 32 _ _ rfl; first | omega | decide | exact fun h9 => absurd (by decide) h9) (by have := R712.1 32 _ _ rfl; first | omega | decide | exact fun h9 => absurd (by decide) h9) (by have := R712.1 32 _ _ rfl; first | omega | decide | exact fun h9 => absurd (by decide) h9) (by have := R712.1 32 _ _ rfl; first | omega | decide | exact fun h9 => absurd (by decide) h9) R712 K718 K719 K720 K721 (by have := R712.1 32 _ _ rfl; omega))
                have : (0 : Int32).toInt = 0 := by decide
                exact mv_less (Nat.zero_le _) (Nat.zero_le _) (L235_535 4294967296 0 T456 M522 n455 I523 t461 (by have := R525.1 32 _ _ rfl; first | omega | decide | exact fun h9 => absurd (by decide) h9) (by have := R525.1 32 _ _ rfl; first | omega | decide | exact fun h9 => absurd (by decide) h9) (by have := R525.1 32 _ _ rfl; first | omega | decide | exact fun h9 => absurd (by decide) h9) (by have := R525.1 32 _ _ rfl; first | omega | decide | exact fun h9 => absurd (by decide) h9) (by have := R525.1 32 _ _ rfl; first | omega | decide | exact fun h9 => absurd (by decide) h9) R525 K531 K532 K533 K534 (by show (2147483647 - (0 : Int) : Int) < _; decide))
              · refine mv_iinc (v := (i8_416 + 1)) (lv' := [(8, .int (i8_416 + 1)), (7, .int i7_407), (5, .long 1), (3, .long 1), (0, .ref o0), (1, .int x1), (2, .int x2)]) d_TrustDeskModel_joins_133 rfl rfl (by decide) rfl ?_
                refine mv_goto (tgt := 118) d_TrustDeskModel_joins_136 (by decide) ?_
                have b724 : (i8_416 + 1 : Int32).toInt = (i8_416.toInt + 1) := mz_add2 rfl (by decide) (by have := kKR_416.1 32 _ _ rfl; omega) (by have := kKR_416.1 32 _ _ rfl; omega)
                have b725 : (i8_416 + 1 : Int32).toInt = (i8_416.toInt + 1) := mz_add2 rfl (by decide) (by have := kKR_416.1 32 _ _ rfl; omega) (by have := kKR_416.1 32 _ _ rfl; omega)
                have b726 : (i8_416 + 1).toInt = i8_416.toInt + 1 := mz_addn 1 1 (by decide) (by have := mz_lo i8_416; omega) (by have := mz_hi i8_416; omega)
                exact (ih416 (i8_416 + 1) T_416 M_416 n_416 I_416 h_q0_416 (by have := kKR_416.1 32 _ _ rfl; first | omega | decide | exact fun h9 => absurd (by decide) h9) (by have := kKR_416.1 32 _ _ rfl; first | omega | decide | exact fun h9 => absurd (by decide) h9) (by have := kKR_416.1 32 _ _ rfl; first | omega | decide | exact fun h9 => absurd (by decide) h9) (by have := kKR_416.1 32 _ _ rfl; first | omega | decide | exact fun h9 => absurd (by decide) h9) kKR_416 kKC_416 kK43x_416 kKT37_416 kKPJ_416 kKPS_416 kKJ0_416 (by have := kKR_416.1 32 _ _ rfl; omega))
          have : (0 : Int32).toInt = 0 := by decide
          exact mv_less (Nat.zero_le _) (Nat.zero_le _) (L118_416 4294967296 0 T_407 M_407 n_407 I_407 h_q0_407 (by have := kKR_407.1 32 _ _ rfl; first | omega | decide | exact fun h9 => absurd (by decide) h9) (by have := kKR_407.1 32 _ _ rfl; first | omega | decide | exact fun h9 => absurd (by decide) h9) (by have := kKR_407.1 32 _ _ rfl; first | omega | decide | exact fun h9 => absurd (by decide) h9) (by have := kKR_407.1 32 _ _ rfl; first | omega | decide | exact fun h9 => absurd (by decide) h9) kKR_407 kKC_407 kK43x_407 kKT37_407 K414 K415 K413 (by show (2147483647 - (0 : Int) : Int) < _; decide))
        · refine mv_aload_n d_TrustDeskModel_joins_42 rfl rfl ?_
          obtain ⟨a728, q727, t_a728⟩ := tm_atR I_407 h_q0_407 (k := 41) rfl
          refine tr_getK q727 d_TrustDeskModel_joins_43 f_TrustDeskModel_92_13 ?_
          refine mv_bipush (v := 12) d_TrustDeskModel_joins_46 (by decide) ?_
          refine mv_iload_n d_TrustDeskModel_joins_48 rfl rfl ?_
          refine mv_imul d_TrustDeskModel_joins_49 ?_
          refine mv_iload d_TrustDeskModel_joins_50 rfl ?_
          refine mv_iadd d_TrustDeskModel_joins_52 ?_
          refine mv_lload d_TrustDeskModel_joins_53 rfl ?_
          refine mv_aload_n d_TrustDeskModel_joins_55 rfl rfl ?_
          refine tr_getK (k := 41) q727 d_TrustDeskModel_joins_56 f_TrustDeskModel_92_13 ?_
          refine mv_bipush (v := 12) d_TrustDeskModel_joins_59 (by decide) ?_
          refine mv_iload_n d_TrustDeskModel_joins_61 rfl rfl ?_
          refine mv_imul d_TrustDeskModel_joins_62 ?_
          refine mv_iload d_TrustDeskModel_joins_63 rfl ?_
          refine mv_iadd d_TrustDeskModel_joins_65 ?_
          have b729 : (12 * x2 : Int32).toInt = (12 * x2.toInt) := mz_mul2 (by decide) rfl (by have := kKR_407.1 32 _ _ rfl; omega) (by have := kKR_407.1 32 _ _ rfl; omega)
          have b730 : ((12 * x2) + i8_407 : Int32).toInt = ((12 * x2.toInt) + i8_407.toInt) := mz_add2 b729 rfl (by have := kKR_407.1 32 _ _ rfl; omega) (by have := kKR_407.1 32 _ _ rfl; omega)
          refine tr_ialdR (o := o0) (k := 41) I_407 q727 t_a728 (by decide) d_TrustDeskModel_joins_66 (vp_in_iff.mpr (by have := kKR_407.1 32 _ _ rfl; omega)) (fun v731 e732 => ?_)
          have := kKR_407.a (k := 41) rfl (((12 * x2) + i8_407) : Int32).toNatClampNeg
          have h733 : ((12 * x2) + i8_407).toNatClampNeg = 12 * x2.toNatClampNeg + i8_407.toInt.toNat := by have := mz_nat9 (i := ((12 * x2) + i8_407)) (by have := kKR_407.1 32 _ _ rfl; omega); have := mz_nat9 (i := x2) (by have := kKR_407.1 32 _ _ rfl; omega); have := kKR_407.1 32 _ _ rfl; omega
          have e734 : v731.toInt = ra M_407 o0 41 (12 * x2.toNatClampNeg + i8_407.toInt.toNat) := by rw [e732, h733]
          refine mv_i2l (v := v731.toInt64) d_TrustDeskModel_joins_67 rfl ?_
          refine mv_lmul d_TrustDeskModel_joins_68 ?_
          refine mv_lload_n d_TrustDeskModel_joins_69 rfl rfl ?_
          refine mv_aload_n d_TrustDeskModel_joins_70 rfl rfl ?_
          refine tr_getK (k := 41) q727 d_TrustDeskModel_joins_71 f_TrustDeskModel_92_13 ?_
          refine mv_bipush (v := 12) d_TrustDeskModel_joins_74 (by decide) ?_
          refine mv_iload_n d_TrustDeskModel_joins_76 rfl rfl ?_
          refine mv_imul d_TrustDeskModel_joins_77 ?_
          refine mv_iload d_TrustDeskModel_joins_78 rfl ?_
          refine mv_iadd d_TrustDeskModel_joins_80 ?_
          have b735 : (12 * x1 : Int32).toInt = (12 * x1.toInt) := mz_mul2 (by decide) rfl (by have := kKR_407.1 32 _ _ rfl; omega) (by have := kKR_407.1 32 _ _ rfl; omega)
          have b736 : ((12 * x1) + i8_407 : Int32).toInt = ((12 * x1.toInt) + i8_407.toInt) := mz_add2 b735 rfl (by have := kKR_407.1 32 _ _ rfl; omega) (by have := kKR_407.1 32 _ _ rfl; omega)
          refine tr_ialdR (o := o0) (k := 41) I_407 q727 t_a728 (by decide) d_TrustDeskModel_joins_81 (vp_in_iff.mpr (by have := kKR_407.1 32 _ _ rfl; omega)) (fun v737 e738 => ?_)
          have := kKR_407.a (k := 41) rfl (((12 * x1) + i8_407) : Int32).toNatClampNeg
          have h739 : ((12 * x1) + i8_407).toNatClampNeg = 12 * x1.toNatClampNeg + i8_407.toInt.toNat := by have := mz_nat9 (i := ((12 * x1) + i8_407)) (by have := kKR_407.1 32 _ _ rfl; omega); have := mz_nat9 (i := x1) (by have := kKR_407.1 32 _ _ rfl; omega); have := kKR_407.1 32 _ _ rfl; omega
          have e740 : v737.toInt = ra M_407 o0 41 (12 * x1.toNatClampNeg + i8_407.toInt.toNat) := by rw [e738, h739]
          refine mv_i2l (v := v737.toInt64) d_TrustDeskModel_joins_82 rfl ?_
          refine mv_lmul d_TrustDeskModel_joins_83 ?_
          refine mv_ladd d_TrustDeskModel_joins_84 ?_
          refine mv_lload_n d_TrustDeskModel_joins_85 rfl rfl ?_
          refine mv_lload d_TrustDeskModel_joins_86 rfl ?_
          refine mv_laddv (v := 2) d_TrustDeskModel_joins_88 (by decide) ?_
          have : (v731.toInt64 : Int64).toInt = v731.toInt := mz_wide _
          have := mz_mulLb (x := 1) (y := v731.toInt64) (A := 1000000000000) (B := 1000000) (by have := kKR_407.1 32 _ _ rfl; omega) (by have := kKR_407.1 32 _ _ rfl; omega) (by have := kKR_407.1 32 _ _ rfl; omega) (by have := kKR_407.1 32 _ _ rfl; omega) (by decide)
          have : (v737.toInt64 : Int64).toInt = v737.toInt := mz_wide _
          have := mz_mulLb (x := 1) (y := v737.toInt64) (A := 1000000000000) (B := 1000000) (by have := kKR_407.1 32 _ _ rfl; omega) (by have := kKR_407.1 32 _ _ rfl; omega) (by have := kKR_407.1 32 _ _ rfl; omega) (by have := kKR_407.1 32 _ _ rfl; omega) (by decide)
          have hN : (((1 * v731.toInt64) + (1 * v737.toInt64)) : Int64).toInt = 1 * v731.toInt + 1 * v737.toInt := mz_addL (by have := mz_mulLb (x := 1) (y := v731.toInt64) (A := 1000000000000) (B := 1000000) (by have := kKR_407.1 32 _ _ rfl; omega) (by have := kKR_407.1 32 _ _ rfl; omega) (by have := kKR_407.1 32 _ _ rfl; omega) (by have := kKR_407.1 32 _ _ rfl; omega) (by decide); rw [this.2.2, mz_wide] <;> rfl) (by have := mz_mulLb (x := 1) (y := v737.toInt64) (A := 1000000000000) (B := 1000000) (by have := kKR_407.1 32 _ _ rfl; omega) (by have := kKR_407.1 32 _ _ rfl; omega) (by have := kKR_407.1 32 _ _ rfl; omega) (by have := kKR_407.1 32 _ _ rfl; omega) (by decide); rw [this.2.2, mz_wide] <;> rfl) (by have := jn_prod (b := 1) (p := v731.toInt) (by have := kKR_407.1 32 _ _ rfl; omega) (by have := kKR_407.1 32 _ _ rfl; omega) (by have := kKR_407.1 32 _ _ rfl; omega) (by have := kKR_407.1 32 _ _ rfl; omega); have := jn_prod (b := 1) (p := v737.toInt) (by have := kKR_407.1 32 _ _ rfl; omega) (by have := kKR_407.1 32 _ _ rfl; omega) (by have := kKR_407.1 32 _ _ rfl; omega) (by have := kKR_407.1 32 _ _ rfl; omega); omega) (by have := jn_prod (b := 1) (p := v731.toInt) (by have := kKR_407.1 32 _ _ rfl; omega) (by have := kKR_407.1 32 _ _ rfl; omega) (by have := kKR_407.1 32 _ _ rfl; omega) (by have := kKR_407.1 32 _ _ rfl; omega); have := jn_prod (b := 1) (p := v737.toInt) (by have := kKR_407.1 32 _ _ rfl; omega) (by have := kKR_407.1 32 _ _ rfl; omega) (by have := kKR_407.1 32 _ _ rfl; omega) (by have := kKR_407.1 32 _ _ rfl; omega); omega)
          have hD : (2 : Int64).toInt = 1 + 1 := by decide
          have hJ := jn_div (a := 1) (b := 1) (p := v731.toInt) (q := v737.toInt) (by omega) (by omega) (by omega) (by omega) (by omega) (by omega) (by omega)
          have hQ : (((1 * v731.toInt64) + (1 * v737.toInt64)) / 2 : Int64).toInt = (1 * v731.toInt + 1 * v737.toInt) / (1 + 1) := by rw [mz_divL (by have := jn_prod (b := 1) (p := v731.toInt) (by have := kKR_407.1 32 _ _ rfl; omega) (by have := kKR_407.1 32 _ _ rfl; omega) (by have := kKR_407.1 32 _ _ rfl; omega) (by have := kKR_407.1 32 _ _ rfl; omega); have := jn_prod (b := 1) (p := v737.toInt) (by have := kKR_407.1 32 _ _ rfl; omega) (by have := kKR_407.1 32 _ _ rfl; omega) (by have := kKR_407.1 32 _ _ rfl; omega) (by have := kKR_407.1 32 _ _ rfl; omega); omega) (by omega), hN, hD]
          have h741 : 0 < (2 : Int64).toInt := by omega
          refine mv_ldiv d_TrustDeskModel_joins_89 (by decide) ?_
          have : ((((1 * v731.toInt64) + (1 * v737.toInt64)) / 2).toInt32).toInt = (((1 * v731.toInt64) + (1 * v737.toInt64)) / 2).toInt := mz_l2i (by have := kKR_407.1 32 _ _ rfl; omega) (by have := kKR_407.1 32 _ _ rfl; omega)
          refine mv_l2i (v := (((1 * v731.toInt64) + (1 * v737.toInt64)) / 2).toInt32) d_TrustDeskModel_joins_90 rfl ?_
          have b742 : (12 * x2 : Int32).toInt = (12 * x2.toInt) := mz_mul2 (by decide) rfl (by have := kKR_407.1 32 _ _ rfl; omega) (by have := kKR_407.1 32 _ _ rfl; omega)
          have b743 : ((12 * x2) + i8_407 : Int32).toInt = ((12 * x2.toInt) + i8_407.toInt) := mz_add2 b742 rfl (by have := kKR_407.1 32 _ _ rfl; omega) (by have := kKR_407.1 32 _ _ rfl; omega)
          refine tr_iastR (k := 41) I_407 kKR_407 (I_407.up h_o0) q727 t_a728 (by decide) (by decide) (fun lo hi h => by cases h; have := kKR_407.1 32 _ _ rfl; exact ⟨by show (0 : Int) ≤ ((((1 * v731.toInt64) + (1 * v737.toInt64)) / 2).toInt32).toInt; omega, by show ((((1 * v731.toInt64) + (1 * v737.toInt64)) / 2).toInt32).toInt ≤ (1000000 : Int); omega⟩) (Or.inl (by decide)) d_TrustDeskModel_joins_91 (vp_in_iff.mpr (by have := kKR_407.1 32 _ _ rfl; omega)) (fun M744 I745 K746 R747 E748 A749 V750 => ?_)
          have z751 := (V750 32)
          have z752 := (A749 43 (by decide) rfl x2.toNatClampNeg)
          have K753 : rC M744 o0 44 := kKC_407.same (sA_a A749 (by decide +kernel)) (sF_a V750)
          have K754 : ∀ i : Nat, i ≠ x2.toNatClampNeg → ra M744 o0 43 i = ra M0 o0 43 i := (by have e9 := ((sA_a A749 (by decide +kernel)) : sA [43] _ _ _) 43 rfl; rw [e9]; exact kK43x_407)
          have K755 : sA [37] M0 M744 o0 := kKT37_407.trans (sA_a A749 (by decide +kernel))
          have K756 : rPJ M0 M744 o0 x2.toNatClampNeg x1.toNatClampNeg 1 1 (i8_407.toInt + 1) := kKPJ_407.st (by omega) (by omega) E748 (by have := mz_nat9 (i := ((12 * x2) + i8_407)) (by have := kKR_407.1 32 _ _ rfl; omega); have := mz_nat9 (i := x2) (by have := kKR_407.1 32 _ _ rfl; omega); have := kKR_407.1 32 _ _ rfl; omega) (by rw [← e734, ← e740]; omega) (by omega)
          have K757 : rPS M744 o0 x2.toNatClampNeg (i8_407.toInt + 1) (1000000 - i7_407.toInt + ((((1 * v731.toInt64) + (1 * v737.toInt64)) / 2).toInt32).toInt) := kKPS_407.st (by omega) E748 (by have := mz_nat9 (i := ((12 * x2) + i8_407)) (by have := kKR_407.1 32 _ _ rfl; omega); have := mz_nat9 (i := x2) (by have := kKR_407.1 32 _ _ rfl; omega); have := kKR_407.1 32 _ _ rfl; omega)
          refine mv_iload d_TrustDeskModel_joins_92 rfl ?_
          refine mv_aload_n d_TrustDeskModel_joins_94 rfl rfl ?_
          refine tr_getK (k := 41) (K746 _ 13 41 _ q727) d_TrustDeskModel_joins_95 f_TrustDeskModel_92_13 ?_
          refine mv_bipush (v := 12) d_TrustDeskModel_joins_98 (by decide) ?_
          refine mv_iload_n d_TrustDeskModel_joins_100 rfl rfl ?_
          refine mv_imul d_TrustDeskModel_joins_101 ?_
          refine mv_iload d_TrustDeskModel_joins_102 rfl ?_
          refine mv_iadd d_TrustDeskModel_joins_104 ?_
          have b758 : (12 * x2 : Int32).toInt = (12 * x2.toInt) := mz_mul2 (by decide) rfl (by have := R747.1 32 _ _ rfl; omega) (by have := R747.1 32 _ _ rfl; omega)
          have b759 : ((12 * x2) + i8_407 : Int32).toInt = ((12 * x2.toInt) + i8_407.toInt) := mz_add2 b758 rfl (by have := R747.1 32 _ _ rfl; omega) (by have := R747.1 32 _ _ rfl; omega)
          refine tr_ialdR (o := o0) (k := 41) I745 (K746 _ 13 41 _ q727) t_a728 (by decide) d_TrustDeskModel_joins_105 (vp_in_iff.mpr (by have := R747.1 32 _ _ rfl; omega)) (fun v760 e761 => ?_)
          have := R747.a (k := 41) rfl (((12 * x2) + i8_407) : Int32).toNatClampNeg
          have : v760.toInt = ((((1 * v731.toInt64) + (1 * v737.toInt64)) / 2).toInt32).toInt := e761.trans ((E748 _).trans (if_pos rfl))
          refine mv_isub d_TrustDeskModel_joins_106 ?_
          refine mv_istore (lv' := [(7, .int (i7_407 - v760)), (8, .int i8_407), (5, .long 1), (3, .long 1), (0, .ref o0), (1, .int x1), (2, .int x2)]) d_TrustDeskModel_joins_107 (by decide) rfl ?_
          refine mv_iinc (v := (i8_407 + 1)) (lv' := [(8, .int (i8_407 + 1)), (7, .int (i7_407 - v760)), (5, .long 1), (3, .long 1), (0, .ref o0), (1, .int x1), (2, .int x2)]) d_TrustDeskModel_joins_109 rfl rfl (by decide) rfl ?_
          refine mv_goto (tgt := 35) d_TrustDeskModel_joins_112 (by decide) ?_
          have b762 : (i7_407 - v760 : Int32).toInt = (i7_407.toInt - v760.toInt) := mz_sub2 rfl rfl (by have := R747.1 32 _ _ rfl; omega) (by have := R747.1 32 _ _ rfl; omega)
          have b763 : (i8_407 + 1 : Int32).toInt = (i8_407.toInt + 1) := mz_add2 rfl (by decide) (by have := R747.1 32 _ _ rfl; omega) (by have := R747.1 32 _ _ rfl; omega)
          have b764 : (i8_407 + 1 : Int32).toInt = (i8_407.toInt + 1) := mz_add2 rfl (by decide) (by have := R747.1 32 _ _ rfl; omega) (by have := R747.1 32 _ _ rfl; omega)
          have K765 : rPJ M0 M744 o0 x2.toNatClampNeg x1.toNatClampNeg 1 1 ((i8_407 + 1).toInt) := K756.cast (by omega)
          have K766 : rPS M744 o0 x2.toNatClampNeg ((i8_407 + 1).toInt) (1000000 - (i7_407 - v760).toInt) := K757.cast (by omega) (by omega)
          have b767 : (i8_407 + 1).toInt = i8_407.toInt + 1 := mz_addn 1 1 (by decide) (by have := mz_lo i8_407; omega) (by have := mz_hi i8_407; omega)
          exact (ih407 (i8_407 + 1) (i7_407 - v760) T_407 M744 n_407 I745 h_q0_407 (by have := R747.1 32 _ _ rfl; first | omega | decide | exact fun h9 => absurd (by decide) h9) (by have := R747.1 32 _ _ rfl; first | omega | decide | exact fun h9 => absurd (by decide) h9) (by have := R747.1 32 _ _ rfl; first | omega | decide | exact fun h9 => absurd (by decide) h9) (by have := R747.1 32 _ _ rfl; first | omega | decide | exact fun h9 => absurd (by decide) h9) (by have := R747.1 32 _ _ rfl; first | omega | decide | exact fun h9 => absurd (by decide) h9) (by have := R747.1 32 _ _ rfl; first | omega | decide | exact fun h9 => absurd (by decide) h9) R747 K753 K754 K755 K765 K766 (by have := R747.1 32 _ _ rfl; omega))
    have : (1000000 : Int32).toInt = 1000000 := by decide
    have : (0 : Int32).toInt = 0 := by decide
    have : (0 : Int32).toInt = 0 := by decide
    have : (1000000 : Int32).toInt = 1000000 := by decide
    have K768 : rPS M23 o0 x2.toNatClampNeg 0 (1000000 - 1000000) := K406.cast (by omega) (by omega)
    exact mv_less (Nat.zero_le _) (Nat.zero_le _) (L35_407 4294967296 0 1000000 T25 M23 n24 I27 t32 (by have := R30.1 32 _ _ rfl; first | omega | decide | exact fun h9 => absurd (by decide) h9) (by have := R30.1 32 _ _ rfl; first | omega | decide | exact fun h9 => absurd (by decide) h9) (by have := R30.1 32 _ _ rfl; first | omega | decide | exact fun h9 => absurd (by decide) h9) (by have := R30.1 32 _ _ rfl; first | omega | decide | exact fun h9 => absurd (by decide) h9) (by have := R30.1 32 _ _ rfl; first | omega | decide | exact fun h9 => absurd (by decide) h9) (by have := R30.1 32 _ _ rfl; first | omega | decide | exact fun h9 => absurd (by decide) h9) R30 K35 K36 K37 K405 K768 (by show (2147483647 - (0 : Int) : Int) < _; decide))
