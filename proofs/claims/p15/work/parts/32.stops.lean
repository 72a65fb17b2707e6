abbrev kY_TrustDeskModel_stops : mj_Y := (⟨"TrustDeskModel", "stops", "(I)I"⟩, prog_14_method_42_code, 5, (Option.some Jvm.ClassFile.FieldType.int))
theorem d_TrustDeskModel_stops_0 : decode kY_TrustDeskModel_stops.2.1 0 = .ok (.aload_n 0, 1) := by decide +kernel
theorem d_TrustDeskModel_stops_1 : decode kY_TrustDeskModel_stops.2.1 1 = .ok (.iconst 0, 1) := by decide +kernel
theorem d_TrustDeskModel_stops_2 : decode kY_TrustDeskModel_stops.2.1 2 = .ok (.putfield 189, 3) := by decide +kernel
theorem p_TrustDeskModel_189_13 : mj_fp "TrustDeskModel" 189 13 14 (kt_TrustDeskModel 14) false := ⟨kR_TrustDeskModel, kF_TrustDeskModel, 72, "TrustDeskModel", kt_TrustDeskModel, rfl, kg_13, by decide, (mj_in1 (List.mem_of_getElem? (i := 1400) (by decide +kernel)) rfl), Or.inl rfl, kto_TrustDeskModel, kn_TrustDeskModel, rfl, rfl, fun h => by cases h⟩
theorem d_TrustDeskModel_stops_5 : decode kY_TrustDeskModel_stops.2.1 5 = .ok (.aload_n 0, 1) := by decide +kernel
theorem d_TrustDeskModel_stops_6 : decode kY_TrustDeskModel_stops.2.1 6 = .ok (.aload_n 0, 1) := by decide +kernel
theorem d_TrustDeskModel_stops_7 : decode kY_TrustDeskModel_stops.2.1 7 = .ok (.invokevirtual 230, 3) := by decide +kernel
theorem d_TrustDeskModel_stops_10 : decode kY_TrustDeskModel_stops.2.1 10 = .ok (.ifCond .eq 7, 3) := by decide +kernel
theorem d_TrustDeskModel_stops_17 : decode kY_TrustDeskModel_stops.2.1 17 = .ok (.aload_n 0, 1) := by decide +kernel
theorem d_TrustDeskModel_stops_18 : decode kY_TrustDeskModel_stops.2.1 18 = .ok (.getfield 227, 3) := by decide +kernel
theorem f_TrustDeskModel_227_13 : mj_fl "TrustDeskModel" 227 13 20 := ⟨kR_TrustDeskModel, kF_TrustDeskModel, 72, "TrustDeskModel", rfl, kg_13, by decide, (mj_in1 (List.mem_of_getElem? (i := 1406) (by decide +kernel)) rfl), Or.inl rfl⟩
theorem d_TrustDeskModel_stops_21 : decode kY_TrustDeskModel_stops.2.1 21 = .ok (.putfield 48, 3) := by decide +kernel
theorem d_TrustDeskModel_stops_24 : decode kY_TrustDeskModel_stops.2.1 24 = .ok (.aload_n 0, 1) := by decide +kernel
theorem d_TrustDeskModel_stops_25 : decode kY_TrustDeskModel_stops.2.1 25 = .ok (.invokevirtual 230, 3) := by decide +kernel
theorem d_TrustDeskModel_stops_28 : decode kY_TrustDeskModel_stops.2.1 28 = .ok (.ifCond .ne 10, 3) := by decide +kernel
theorem d_TrustDeskModel_stops_31 : decode kY_TrustDeskModel_stops.2.1 31 = .ok (.iconst (-1), 1) := by decide +kernel
theorem d_TrustDeskModel_stops_32 : decode kY_TrustDeskModel_stops.2.1 32 = .ok (.aload_n 0, 1) := by decide +kernel
theorem d_TrustDeskModel_stops_33 : decode kY_TrustDeskModel_stops.2.1 33 = .ok (.getfield 224, 3) := by decide +kernel
theorem d_TrustDeskModel_stops_36 : decode kY_TrustDeskModel_stops.2.1 36 = .ok (.isub, 1) := by decide +kernel
theorem d_TrustDeskModel_stops_37 : decode kY_TrustDeskModel_stops.2.1 37 = .ok (.ireturn, 1) := by decide +kernel
theorem d_TrustDeskModel_stops_13 : decode kY_TrustDeskModel_stops.2.1 13 = .ok (.iconst (-1), 1) := by decide +kernel
theorem d_TrustDeskModel_stops_14 : decode kY_TrustDeskModel_stops.2.1 14 = .ok (.goto 7, 3) := by decide +kernel
theorem d_TrustDeskModel_stops_38 : decode kY_TrustDeskModel_stops.2.1 38 = .ok (.aload_n 0, 1) := by decide +kernel
theorem d_TrustDeskModel_stops_39 : decode kY_TrustDeskModel_stops.2.1 39 = .ok (.getfield 20, 3) := by decide +kernel
theorem d_TrustDeskModel_stops_42 : decode kY_TrustDeskModel_stops.2.1 42 = .ok (.iload_n 1, 1) := by decide +kernel
theorem d_TrustDeskModel_stops_43 : decode kY_TrustDeskModel_stops.2.1 43 = .ok (.aload_n 0, 1) := by decide +kernel
theorem d_TrustDeskModel_stops_44 : decode kY_TrustDeskModel_stops.2.1 44 = .ok (.getfield 20, 3) := by decide +kernel
theorem d_TrustDeskModel_stops_47 : decode kY_TrustDeskModel_stops.2.1 47 = .ok (.bipush 44, 2) := by decide +kernel
theorem d_TrustDeskModel_stops_49 : decode kY_TrustDeskModel_stops.2.1 49 = .ok (.iaload, 1) := by decide +kernel
theorem d_TrustDeskModel_stops_50 : decode kY_TrustDeskModel_stops.2.1 50 = .ok (.iastore, 1) := by decide +kernel
theorem d_TrustDeskModel_stops_51 : decode kY_TrustDeskModel_stops.2.1 51 = .ok (.aload_n 0, 1) := by decide +kernel
theorem d_TrustDeskModel_stops_52 : decode kY_TrustDeskModel_stops.2.1 52 = .ok (.getfield 23, 3) := by decide +kernel
theorem d_TrustDeskModel_stops_55 : decode kY_TrustDeskModel_stops.2.1 55 = .ok (.iload_n 1, 1) := by decide +kernel
theorem d_TrustDeskModel_stops_56 : decode kY_TrustDeskModel_stops.2.1 56 = .ok (.aload_n 0, 1) := by decide +kernel
theorem d_TrustDeskModel_stops_57 : decode kY_TrustDeskModel_stops.2.1 57 = .ok (.getfield 23, 3) := by decide +kernel
theorem d_TrustDeskModel_stops_60 : decode kY_TrustDeskModel_stops.2.1 60 = .ok (.bipush 44, 2) := by decide +kernel
theorem d_TrustDeskModel_stops_62 : decode kY_TrustDeskModel_stops.2.1 62 = .ok (.iaload, 1) := by decide +kernel
theorem d_TrustDeskModel_stops_63 : decode kY_TrustDeskModel_stops.2.1 63 = .ok (.iastore, 1) := by decide +kernel
theorem d_TrustDeskModel_stops_64 : decode kY_TrustDeskModel_stops.2.1 64 = .ok (.iconst 0, 1) := by decide +kernel
theorem d_TrustDeskModel_stops_65 : decode kY_TrustDeskModel_stops.2.1 65 = .ok (.istore_n 2, 1) := by decide +kernel
theorem d_TrustDeskModel_stops_66 : decode kY_TrustDeskModel_stops.2.1 66 = .ok (.iload_n 2, 1) := by decide +kernel
theorem d_TrustDeskModel_stops_67 : decode kY_TrustDeskModel_stops.2.1 67 = .ok (.aload_n 0, 1) := by decide +kernel
theorem d_TrustDeskModel_stops_68 : decode kY_TrustDeskModel_stops.2.1 68 = .ok (.getfield 20, 3) := by decide +kernel
theorem d_TrustDeskModel_stops_71 : decode kY_TrustDeskModel_stops.2.1 71 = .ok (.bipush 44, 2) := by decide +kernel
theorem d_TrustDeskModel_stops_73 : decode kY_TrustDeskModel_stops.2.1 73 = .ok (.iaload, 1) := by decide +kernel
theorem d_TrustDeskModel_stops_74 : decode kY_TrustDeskModel_stops.2.1 74 = .ok (.if_icmp .ge 31, 3) := by decide +kernel
theorem d_TrustDeskModel_stops_105 : decode kY_TrustDeskModel_stops.2.1 105 = .ok (.iconst 0, 1) := by decide +kernel
theorem d_TrustDeskModel_stops_106 : decode kY_TrustDeskModel_stops.2.1 106 = .ok (.istore_n 2, 1) := by decide +kernel
theorem d_TrustDeskModel_stops_107 : decode kY_TrustDeskModel_stops.2.1 107 = .ok (.iload_n 2, 1) := by decide +kernel
theorem d_TrustDeskModel_stops_108 : decode kY_TrustDeskModel_stops.2.1 108 = .ok (.aload_n 0, 1) := by decide +kernel
theorem d_TrustDeskModel_stops_109 : decode kY_TrustDeskModel_stops.2.1 109 = .ok (.getfield 23, 3) := by decide +kernel
theorem d_TrustDeskModel_stops_112 : decode kY_TrustDeskModel_stops.2.1 112 = .ok (.bipush 44, 2) := by decide +kernel
theorem d_TrustDeskModel_stops_114 : decode kY_TrustDeskModel_stops.2.1 114 = .ok (.iaload, 1) := by decide +kernel
theorem d_TrustDeskModel_stops_115 : decode kY_TrustDeskModel_stops.2.1 115 = .ok (.if_icmp .ge 101, 3) := by decide +kernel
theorem d_TrustDeskModel_stops_216 : decode kY_TrustDeskModel_stops.2.1 216 = .ok (.iconst 0, 1) := by decide +kernel
theorem d_TrustDeskModel_stops_217 : decode kY_TrustDeskModel_stops.2.1 217 = .ok (.ireturn, 1) := by decide +kernel
theorem d_TrustDeskModel_stops_118 : decode kY_TrustDeskModel_stops.2.1 118 = .ok (.sipush 880, 3) := by decide +kernel
theorem d_TrustDeskModel_stops_121 : decode kY_TrustDeskModel_stops.2.1 121 = .ok (.iload_n 2, 1) := by decide +kernel
theorem d_TrustDeskModel_stops_122 : decode kY_TrustDeskModel_stops.2.1 122 = .ok (.iadd, 1) := by decide +kernel
theorem d_TrustDeskModel_stops_123 : decode kY_TrustDeskModel_stops.2.1 123 = .ok (.istore_n 3, 1) := by decide +kernel
theorem d_TrustDeskModel_stops_124 : decode kY_TrustDeskModel_stops.2.1 124 = .ok (.bipush 20, 2) := by decide +kernel
theorem d_TrustDeskModel_stops_126 : decode kY_TrustDeskModel_stops.2.1 126 = .ok (.iload_n 1, 1) := by decide +kernel
theorem d_TrustDeskModel_stops_127 : decode kY_TrustDeskModel_stops.2.1 127 = .ok (.imul, 1) := by decide +kernel
theorem d_TrustDeskModel_stops_128 : decode kY_TrustDeskModel_stops.2.1 128 = .ok (.iload_n 2, 1) := by decide +kernel
theorem d_TrustDeskModel_stops_129 : decode kY_TrustDeskModel_stops.2.1 129 = .ok (.iadd, 1) := by decide +kernel
theorem d_TrustDeskModel_stops_130 : decode kY_TrustDeskModel_stops.2.1 130 = .ok (.istore 4, 2) := by decide +kernel
theorem d_TrustDeskModel_stops_132 : decode kY_TrustDeskModel_stops.2.1 132 = .ok (.aload_n 0, 1) := by decide +kernel
theorem d_TrustDeskModel_stops_133 : decode kY_TrustDeskModel_stops.2.1 133 = .ok (.getfield 26, 3) := by decide +kernel
theorem d_TrustDeskModel_stops_136 : decode kY_TrustDeskModel_stops.2.1 136 = .ok (.iload 4, 2) := by decide +kernel
theorem d_TrustDeskModel_stops_138 : decode kY_TrustDeskModel_stops.2.1 138 = .ok (.aload_n 0, 1) := by decide +kernel
theorem d_TrustDeskModel_stops_139 : decode kY_TrustDeskModel_stops.2.1 139 = .ok (.getfield 26, 3) := by decide +kernel
theorem d_TrustDeskModel_stops_142 : decode kY_TrustDeskModel_stops.2.1 142 = .ok (.iload_n 3, 1) := by decide +kernel
theorem d_TrustDeskModel_stops_143 : decode kY_TrustDeskModel_stops.2.1 143 = .ok (.iaload, 1) := by decide +kernel
theorem d_TrustDeskModel_stops_144 : decode kY_TrustDeskModel_stops.2.1 144 = .ok (.iastore, 1) := by decide +kernel
theorem d_TrustDeskModel_stops_145 : decode kY_TrustDeskModel_stops.2.1 145 = .ok (.aload_n 0, 1) := by decide +kernel
theorem d_TrustDeskModel_stops_146 : decode kY_TrustDeskModel_stops.2.1 146 = .ok (.getfield 29, 3) := by decide +kernel
theorem d_TrustDeskModel_stops_149 : decode kY_TrustDeskModel_stops.2.1 149 = .ok (.iload 4, 2) := by decide +kernel
theorem d_TrustDeskModel_stops_151 : decode kY_TrustDeskModel_stops.2.1 151 = .ok (.aload_n 0, 1) := by decide +kernel
theorem d_TrustDeskModel_stops_152 : decode kY_TrustDeskModel_stops.2.1 152 = .ok (.getfield 29, 3) := by decide +kernel
theorem d_TrustDeskModel_stops_155 : decode kY_TrustDeskModel_stops.2.1 155 = .ok (.iload_n 3, 1) := by decide +kernel
theorem d_TrustDeskModel_stops_156 : decode kY_TrustDeskModel_stops.2.1 156 = .ok (.iaload, 1) := by decide +kernel
theorem d_TrustDeskModel_stops_157 : decode kY_TrustDeskModel_stops.2.1 157 = .ok (.iastore, 1) := by decide +kernel
theorem d_TrustDeskModel_stops_158 : decode kY_TrustDeskModel_stops.2.1 158 = .ok (.aload_n 0, 1) := by decide +kernel
theorem d_TrustDeskModel_stops_159 : decode kY_TrustDeskModel_stops.2.1 159 = .ok (.getfield 32, 3) := by decide +kernel
theorem d_TrustDeskModel_stops_162 : decode kY_TrustDeskModel_stops.2.1 162 = .ok (.iload 4, 2) := by decide +kernel
theorem d_TrustDeskModel_stops_164 : decode kY_TrustDeskModel_stops.2.1 164 = .ok (.aload_n 0, 1) := by decide +kernel
theorem d_TrustDeskModel_stops_165 : decode kY_TrustDeskModel_stops.2.1 165 = .ok (.getfield 32, 3) := by decide +kernel
theorem d_TrustDeskModel_stops_168 : decode kY_TrustDeskModel_stops.2.1 168 = .ok (.iload_n 3, 1) := by decide +kernel
theorem d_TrustDeskModel_stops_169 : decode kY_TrustDeskModel_stops.2.1 169 = .ok (.iaload, 1) := by decide +kernel
theorem d_TrustDeskModel_stops_170 : decode kY_TrustDeskModel_stops.2.1 170 = .ok (.iastore, 1) := by decide +kernel
theorem d_TrustDeskModel_stops_171 : decode kY_TrustDeskModel_stops.2.1 171 = .ok (.aload_n 0, 1) := by decide +kernel
theorem d_TrustDeskModel_stops_172 : decode kY_TrustDeskModel_stops.2.1 172 = .ok (.getfield 35, 3) := by decide +kernel
theorem d_TrustDeskModel_stops_175 : decode kY_TrustDeskModel_stops.2.1 175 = .ok (.iload 4, 2) := by decide +kernel
theorem d_TrustDeskModel_stops_177 : decode kY_TrustDeskModel_stops.2.1 177 = .ok (.aload_n 0, 1) := by decide +kernel
theorem d_TrustDeskModel_stops_178 : decode kY_TrustDeskModel_stops.2.1 178 = .ok (.getfield 35, 3) := by decide +kernel
theorem d_TrustDeskModel_stops_181 : decode kY_TrustDeskModel_stops.2.1 181 = .ok (.iload_n 3, 1) := by decide +kernel
theorem d_TrustDeskModel_stops_182 : decode kY_TrustDeskModel_stops.2.1 182 = .ok (.iaload, 1) := by decide +kernel
theorem d_TrustDeskModel_stops_183 : decode kY_TrustDeskModel_stops.2.1 183 = .ok (.iastore, 1) := by decide +kernel
theorem d_TrustDeskModel_stops_184 : decode kY_TrustDeskModel_stops.2.1 184 = .ok (.aload_n 0, 1) := by decide +kernel
theorem d_TrustDeskModel_stops_185 : decode kY_TrustDeskModel_stops.2.1 185 = .ok (.getfield 38, 3) := by decide +kernel
theorem d_TrustDeskModel_stops_188 : decode kY_TrustDeskModel_stops.2.1 188 = .ok (.iload 4, 2) := by decide +kernel
theorem d_TrustDeskModel_stops_190 : decode kY_TrustDeskModel_stops.2.1 190 = .ok (.aload_n 0, 1) := by decide +kernel
theorem d_TrustDeskModel_stops_191 : decode kY_TrustDeskModel_stops.2.1 191 = .ok (.getfield 38, 3) := by decide +kernel
theorem d_TrustDeskModel_stops_194 : decode kY_TrustDeskModel_stops.2.1 194 = .ok (.iload_n 3, 1) := by decide +kernel
theorem d_TrustDeskModel_stops_195 : decode kY_TrustDeskModel_stops.2.1 195 = .ok (.iaload, 1) := by decide +kernel
theorem d_TrustDeskModel_stops_196 : decode kY_TrustDeskModel_stops.2.1 196 = .ok (.iastore, 1) := by decide +kernel
theorem d_TrustDeskModel_stops_197 : decode kY_TrustDeskModel_stops.2.1 197 = .ok (.aload_n 0, 1) := by decide +kernel
theorem d_TrustDeskModel_stops_198 : decode kY_TrustDeskModel_stops.2.1 198 = .ok (.getfield 41, 3) := by decide +kernel
theorem d_TrustDeskModel_stops_201 : decode kY_TrustDeskModel_stops.2.1 201 = .ok (.iload 4, 2) := by decide +kernel
theorem d_TrustDeskModel_stops_203 : decode kY_TrustDeskModel_stops.2.1 203 = .ok (.aload_n 0, 1) := by decide +kernel
theorem d_TrustDeskModel_stops_204 : decode kY_TrustDeskModel_stops.2.1 204 = .ok (.getfield 41, 3) := by decide +kernel
theorem d_TrustDeskModel_stops_207 : decode kY_TrustDeskModel_stops.2.1 207 = .ok (.iload_n 3, 1) := by decide +kernel
theorem d_TrustDeskModel_stops_208 : decode kY_TrustDeskModel_stops.2.1 208 = .ok (.iaload, 1) := by decide +kernel
theorem d_TrustDeskModel_stops_209 : decode kY_TrustDeskModel_stops.2.1 209 = .ok (.iastore, 1) := by decide +kernel
theorem d_TrustDeskModel_stops_210 : decode kY_TrustDeskModel_stops.2.1 210 = .ok (.iinc 2 1, 3) := by decide +kernel
theorem d_TrustDeskModel_stops_213 : decode kY_TrustDeskModel_stops.2.1 213 = .ok (.goto (-106), 3) := by decide +kernel
theorem d_TrustDeskModel_stops_77 : decode kY_TrustDeskModel_stops.2.1 77 = .ok (.aload_n 0, 1) := by decide +kernel
theorem d_TrustDeskModel_stops_78 : decode kY_TrustDeskModel_stops.2.1 78 = .ok (.getfield 17, 3) := by decide +kernel
theorem d_TrustDeskModel_stops_81 : decode kY_TrustDeskModel_stops.2.1 81 = .ok (.sipush 420, 3) := by decide +kernel
theorem d_TrustDeskModel_stops_84 : decode kY_TrustDeskModel_stops.2.1 84 = .ok (.iload_n 1, 1) := by decide +kernel
theorem d_TrustDeskModel_stops_85 : decode kY_TrustDeskModel_stops.2.1 85 = .ok (.imul, 1) := by decide +kernel
theorem d_TrustDeskModel_stops_86 : decode kY_TrustDeskModel_stops.2.1 86 = .ok (.iload_n 2, 1) := by decide +kernel
theorem d_TrustDeskModel_stops_87 : decode kY_TrustDeskModel_stops.2.1 87 = .ok (.iadd, 1) := by decide +kernel
theorem d_TrustDeskModel_stops_88 : decode kY_TrustDeskModel_stops.2.1 88 = .ok (.aload_n 0, 1) := by decide +kernel
theorem d_TrustDeskModel_stops_89 : decode kY_TrustDeskModel_stops.2.1 89 = .ok (.getfield 17, 3) := by decide +kernel
theorem d_TrustDeskModel_stops_92 : decode kY_TrustDeskModel_stops.2.1 92 = .ok (.sipush 18480, 3) := by decide +kernel
theorem d_TrustDeskModel_stops_95 : decode kY_TrustDeskModel_stops.2.1 95 = .ok (.iload_n 2, 1) := by decide +kernel
theorem d_TrustDeskModel_stops_96 : decode kY_TrustDeskModel_stops.2.1 96 = .ok (.iadd, 1) := by decide +kernel
theorem d_TrustDeskModel_stops_97 : decode kY_TrustDeskModel_stops.2.1 97 = .ok (.iaload, 1) := by decide +kernel
theorem d_TrustDeskModel_stops_98 : decode kY_TrustDeskModel_stops.2.1 98 = .ok (.iastore, 1) := by decide +kernel
theorem d_TrustDeskModel_stops_99 : decode kY_TrustDeskModel_stops.2.1 99 = .ok (.iinc 2 1, 3) := by decide +kernel
theorem d_TrustDeskModel_stops_102 : decode kY_TrustDeskModel_stops.2.1 102 = .ok (.goto (-36), 3) := by decide +kernel
