abbrev kY_TrustDeskModel_propose : mj_Y := (⟨"TrustDeskModel", "propose", "(III)I"⟩, prog_14_method_72_code, 5, (Option.some Jvm.ClassFile.FieldType.int))
theorem d_TrustDeskModel_propose_0 : decode kY_TrustDeskModel_propose.2.1 0 = .ok (.aload_n 0, 1) := by decide +kernel
theorem d_TrustDeskModel_propose_1 : decode kY_TrustDeskModel_propose.2.1 1 = .ok (.iconst 0, 1) := by decide +kernel
theorem d_TrustDeskModel_propose_2 : decode kY_TrustDeskModel_propose.2.1 2 = .ok (.putfield 1, 3) := by decide +kernel
theorem d_TrustDeskModel_propose_5 : decode kY_TrustDeskModel_propose.2.1 5 = .ok (.aload_n 0, 1) := by decide +kernel
theorem d_TrustDeskModel_propose_6 : decode kY_TrustDeskModel_propose.2.1 6 = .ok (.iload_n 2, 1) := by decide +kernel
theorem d_TrustDeskModel_propose_7 : decode kY_TrustDeskModel_propose.2.1 7 = .ok (.invokevirtual 418, 3) := by decide +kernel
theorem d_TrustDeskModel_propose_10 : decode kY_TrustDeskModel_propose.2.1 10 = .ok (.ifCond .eq 24, 3) := by decide +kernel
theorem d_TrustDeskModel_propose_34 : decode kY_TrustDeskModel_propose.2.1 34 = .ok (.iconst (-1), 1) := by decide +kernel
theorem d_TrustDeskModel_propose_35 : decode kY_TrustDeskModel_propose.2.1 35 = .ok (.ireturn, 1) := by decide +kernel
theorem d_TrustDeskModel_propose_13 : decode kY_TrustDeskModel_propose.2.1 13 = .ok (.iload_n 1, 1) := by decide +kernel
theorem d_TrustDeskModel_propose_14 : decode kY_TrustDeskModel_propose.2.1 14 = .ok (.i2l, 1) := by decide +kernel
theorem d_TrustDeskModel_propose_15 : decode kY_TrustDeskModel_propose.2.1 15 = .ok (.lconst 0, 1) := by decide +kernel
theorem d_TrustDeskModel_propose_16 : decode kY_TrustDeskModel_propose.2.1 16 = .ok (.ldc2_w 504, 3) := by decide +kernel
theorem d_TrustDeskModel_propose_19 : decode kY_TrustDeskModel_propose.2.1 19 = .ok (.invokestatic 169, 3) := by decide +kernel
theorem d_TrustDeskModel_propose_22 : decode kY_TrustDeskModel_propose.2.1 22 = .ok (.ifCond .eq 12, 3) := by decide +kernel
theorem d_TrustDeskModel_propose_25 : decode kY_TrustDeskModel_propose.2.1 25 = .ok (.aload_n 0, 1) := by decide +kernel
theorem d_TrustDeskModel_propose_26 : decode kY_TrustDeskModel_propose.2.1 26 = .ok (.getfield 501, 3) := by decide +kernel
theorem d_TrustDeskModel_propose_29 : decode kY_TrustDeskModel_propose.2.1 29 = .ok (.bipush 40, 2) := by decide +kernel
theorem d_TrustDeskModel_propose_31 : decode kY_TrustDeskModel_propose.2.1 31 = .ok (.if_icmp .ne 5, 3) := by decide +kernel
theorem d_TrustDeskModel_propose_36 : decode kY_TrustDeskModel_propose.2.1 36 = .ok (.iload_n 1, 1) := by decide +kernel
theorem d_TrustDeskModel_propose_37 : decode kY_TrustDeskModel_propose.2.1 37 = .ok (.ifCond .ne 23, 3) := by decide +kernel
theorem d_TrustDeskModel_propose_60 : decode kY_TrustDeskModel_propose.2.1 60 = .ok (.iload_n 1, 1) := by decide +kernel
theorem d_TrustDeskModel_propose_61 : decode kY_TrustDeskModel_propose.2.1 61 = .ok (.iconst 1, 1) := by decide +kernel
theorem d_TrustDeskModel_propose_62 : decode kY_TrustDeskModel_propose.2.1 62 = .ok (.if_icmp .ne 11, 3) := by decide +kernel
theorem d_TrustDeskModel_propose_73 : decode kY_TrustDeskModel_propose.2.1 73 = .ok (.iload_n 1, 1) := by decide +kernel
theorem d_TrustDeskModel_propose_74 : decode kY_TrustDeskModel_propose.2.1 74 = .ok (.iconst 2, 1) := by decide +kernel
theorem d_TrustDeskModel_propose_75 : decode kY_TrustDeskModel_propose.2.1 75 = .ok (.if_icmp .ne 15, 3) := by decide +kernel
theorem d_TrustDeskModel_propose_90 : decode kY_TrustDeskModel_propose.2.1 90 = .ok (.iload_n 3, 1) := by decide +kernel
theorem d_TrustDeskModel_propose_91 : decode kY_TrustDeskModel_propose.2.1 91 = .ok (.ifCond .lt 7, 3) := by decide +kernel
theorem d_TrustDeskModel_propose_98 : decode kY_TrustDeskModel_propose.2.1 98 = .ok (.iconst 0, 1) := by decide +kernel
theorem d_TrustDeskModel_propose_99 : decode kY_TrustDeskModel_propose.2.1 99 = .ok (.istore 4, 2) := by decide +kernel
theorem d_TrustDeskModel_propose_101 : decode kY_TrustDeskModel_propose.2.1 101 = .ok (.iload 4, 2) := by decide +kernel
theorem d_TrustDeskModel_propose_103 : decode kY_TrustDeskModel_propose.2.1 103 = .ok (.ifCond .ne 5, 3) := by decide +kernel
theorem d_TrustDeskModel_propose_106 : decode kY_TrustDeskModel_propose.2.1 106 = .ok (.iconst (-1), 1) := by decide +kernel
theorem d_TrustDeskModel_propose_107 : decode kY_TrustDeskModel_propose.2.1 107 = .ok (.ireturn, 1) := by decide +kernel
theorem d_TrustDeskModel_propose_94 : decode kY_TrustDeskModel_propose.2.1 94 = .ok (.iconst 1, 1) := by decide +kernel
theorem d_TrustDeskModel_propose_95 : decode kY_TrustDeskModel_propose.2.1 95 = .ok (.goto 4, 3) := by decide +kernel
theorem d_TrustDeskModel_propose_108 : decode kY_TrustDeskModel_propose.2.1 108 = .ok (.aload_n 0, 1) := by decide +kernel
theorem d_TrustDeskModel_propose_109 : decode kY_TrustDeskModel_propose.2.1 109 = .ok (.getfield 122, 3) := by decide +kernel
theorem d_TrustDeskModel_propose_112 : decode kY_TrustDeskModel_propose.2.1 112 = .ok (.aload_n 0, 1) := by decide +kernel
theorem d_TrustDeskModel_propose_113 : decode kY_TrustDeskModel_propose.2.1 113 = .ok (.getfield 501, 3) := by decide +kernel
theorem d_TrustDeskModel_propose_116 : decode kY_TrustDeskModel_propose.2.1 116 = .ok (.iload_n 1, 1) := by decide +kernel
theorem d_TrustDeskModel_propose_117 : decode kY_TrustDeskModel_propose.2.1 117 = .ok (.iastore, 1) := by decide +kernel
theorem d_TrustDeskModel_propose_118 : decode kY_TrustDeskModel_propose.2.1 118 = .ok (.aload_n 0, 1) := by decide +kernel
theorem d_TrustDeskModel_propose_119 : decode kY_TrustDeskModel_propose.2.1 119 = .ok (.getfield 125, 3) := by decide +kernel
theorem d_TrustDeskModel_propose_122 : decode kY_TrustDeskModel_propose.2.1 122 = .ok (.aload_n 0, 1) := by decide +kernel
theorem d_TrustDeskModel_propose_123 : decode kY_TrustDeskModel_propose.2.1 123 = .ok (.getfield 501, 3) := by decide +kernel
theorem d_TrustDeskModel_propose_126 : decode kY_TrustDeskModel_propose.2.1 126 = .ok (.iload_n 2, 1) := by decide +kernel
theorem d_TrustDeskModel_propose_127 : decode kY_TrustDeskModel_propose.2.1 127 = .ok (.iastore, 1) := by decide +kernel
theorem d_TrustDeskModel_propose_128 : decode kY_TrustDeskModel_propose.2.1 128 = .ok (.aload_n 0, 1) := by decide +kernel
theorem d_TrustDeskModel_propose_129 : decode kY_TrustDeskModel_propose.2.1 129 = .ok (.getfield 128, 3) := by decide +kernel
theorem d_TrustDeskModel_propose_132 : decode kY_TrustDeskModel_propose.2.1 132 = .ok (.aload_n 0, 1) := by decide +kernel
theorem d_TrustDeskModel_propose_133 : decode kY_TrustDeskModel_propose.2.1 133 = .ok (.getfield 501, 3) := by decide +kernel
theorem d_TrustDeskModel_propose_136 : decode kY_TrustDeskModel_propose.2.1 136 = .ok (.iload_n 3, 1) := by decide +kernel
theorem d_TrustDeskModel_propose_137 : decode kY_TrustDeskModel_propose.2.1 137 = .ok (.iastore, 1) := by decide +kernel
theorem d_TrustDeskModel_propose_138 : decode kY_TrustDeskModel_propose.2.1 138 = .ok (.aload_n 0, 1) := by decide +kernel
theorem d_TrustDeskModel_propose_139 : decode kY_TrustDeskModel_propose.2.1 139 = .ok (.getfield 131, 3) := by decide +kernel
theorem d_TrustDeskModel_propose_142 : decode kY_TrustDeskModel_propose.2.1 142 = .ok (.aload_n 0, 1) := by decide +kernel
theorem d_TrustDeskModel_propose_143 : decode kY_TrustDeskModel_propose.2.1 143 = .ok (.getfield 501, 3) := by decide +kernel
theorem d_TrustDeskModel_propose_146 : decode kY_TrustDeskModel_propose.2.1 146 = .ok (.aload_n 0, 1) := by decide +kernel
theorem d_TrustDeskModel_propose_147 : decode kY_TrustDeskModel_propose.2.1 147 = .ok (.getfield 164, 3) := by decide +kernel
theorem d_TrustDeskModel_propose_150 : decode kY_TrustDeskModel_propose.2.1 150 = .ok (.iastore, 1) := by decide +kernel
theorem d_TrustDeskModel_propose_151 : decode kY_TrustDeskModel_propose.2.1 151 = .ok (.aload_n 0, 1) := by decide +kernel
theorem d_TrustDeskModel_propose_152 : decode kY_TrustDeskModel_propose.2.1 152 = .ok (.getfield 134, 3) := by decide +kernel
theorem d_TrustDeskModel_propose_155 : decode kY_TrustDeskModel_propose.2.1 155 = .ok (.aload_n 0, 1) := by decide +kernel
theorem d_TrustDeskModel_propose_156 : decode kY_TrustDeskModel_propose.2.1 156 = .ok (.getfield 501, 3) := by decide +kernel
theorem d_TrustDeskModel_propose_159 : decode kY_TrustDeskModel_propose.2.1 159 = .ok (.aload_n 0, 1) := by decide +kernel
theorem d_TrustDeskModel_propose_160 : decode kY_TrustDeskModel_propose.2.1 160 = .ok (.getfield 164, 3) := by decide +kernel
theorem d_TrustDeskModel_propose_163 : decode kY_TrustDeskModel_propose.2.1 163 = .ok (.aload_n 0, 1) := by decide +kernel
theorem d_TrustDeskModel_propose_164 : decode kY_TrustDeskModel_propose.2.1 164 = .ok (.aload_n 0, 1) := by decide +kernel
theorem d_TrustDeskModel_propose_165 : decode kY_TrustDeskModel_propose.2.1 165 = .ok (.getfield 164, 3) := by decide +kernel
theorem d_TrustDeskModel_propose_168 : decode kY_TrustDeskModel_propose.2.1 168 = .ok (.iconst 2, 1) := by decide +kernel
theorem d_TrustDeskModel_propose_169 : decode kY_TrustDeskModel_propose.2.1 169 = .ok (.invokevirtual 396, 3) := by decide +kernel
theorem d_TrustDeskModel_propose_172 : decode kY_TrustDeskModel_propose.2.1 172 = .ok (.iadd, 1) := by decide +kernel
theorem d_TrustDeskModel_propose_173 : decode kY_TrustDeskModel_propose.2.1 173 = .ok (.iastore, 1) := by decide +kernel
theorem d_TrustDeskModel_propose_174 : decode kY_TrustDeskModel_propose.2.1 174 = .ok (.aload_n 0, 1) := by decide +kernel
theorem d_TrustDeskModel_propose_175 : decode kY_TrustDeskModel_propose.2.1 175 = .ok (.getfield 137, 3) := by decide +kernel
theorem d_TrustDeskModel_propose_178 : decode kY_TrustDeskModel_propose.2.1 178 = .ok (.aload_n 0, 1) := by decide +kernel
theorem d_TrustDeskModel_propose_179 : decode kY_TrustDeskModel_propose.2.1 179 = .ok (.getfield 501, 3) := by decide +kernel
theorem d_TrustDeskModel_propose_182 : decode kY_TrustDeskModel_propose.2.1 182 = .ok (.iconst 0, 1) := by decide +kernel
theorem d_TrustDeskModel_propose_183 : decode kY_TrustDeskModel_propose.2.1 183 = .ok (.iastore, 1) := by decide +kernel
theorem d_TrustDeskModel_propose_184 : decode kY_TrustDeskModel_propose.2.1 184 = .ok (.aload_n 0, 1) := by decide +kernel
theorem d_TrustDeskModel_propose_185 : decode kY_TrustDeskModel_propose.2.1 185 = .ok (.dup, 1) := by decide +kernel
theorem d_TrustDeskModel_propose_186 : decode kY_TrustDeskModel_propose.2.1 186 = .ok (.getfield 501, 3) := by decide +kernel
theorem d_TrustDeskModel_propose_189 : decode kY_TrustDeskModel_propose.2.1 189 = .ok (.iconst 1, 1) := by decide +kernel
theorem d_TrustDeskModel_propose_190 : decode kY_TrustDeskModel_propose.2.1 190 = .ok (.iadd, 1) := by decide +kernel
theorem d_TrustDeskModel_propose_191 : decode kY_TrustDeskModel_propose.2.1 191 = .ok (.putfield 501, 3) := by decide +kernel
theorem p_TrustDeskModel_501_13 : mj_fp "TrustDeskModel" 501 13 53 (kt_TrustDeskModel 53) false := ⟨kR_TrustDeskModel, kF_TrustDeskModel, 72, "TrustDeskModel", kt_TrustDeskModel, rfl, kg_13, by decide, (mj_in1 (List.mem_of_getElem? (i := 1439) (by decide +kernel)) rfl), Or.inl rfl, kto_TrustDeskModel, kn_TrustDeskModel, rfl, rfl, fun h => by cases h⟩
theorem d_TrustDeskModel_propose_194 : decode kY_TrustDeskModel_propose.2.1 194 = .ok (.aload_n 0, 1) := by decide +kernel
theorem d_TrustDeskModel_propose_195 : decode kY_TrustDeskModel_propose.2.1 195 = .ok (.getfield 501, 3) := by decide +kernel
theorem d_TrustDeskModel_propose_198 : decode kY_TrustDeskModel_propose.2.1 198 = .ok (.iconst 1, 1) := by decide +kernel
theorem d_TrustDeskModel_propose_199 : decode kY_TrustDeskModel_propose.2.1 199 = .ok (.isub, 1) := by decide +kernel
theorem d_TrustDeskModel_propose_200 : decode kY_TrustDeskModel_propose.2.1 200 = .ok (.ireturn, 1) := by decide +kernel
theorem d_TrustDeskModel_propose_78 : decode kY_TrustDeskModel_propose.2.1 78 = .ok (.iload_n 3, 1) := by decide +kernel
theorem d_TrustDeskModel_propose_79 : decode kY_TrustDeskModel_propose.2.1 79 = .ok (.i2l, 1) := by decide +kernel
theorem d_TrustDeskModel_propose_80 : decode kY_TrustDeskModel_propose.2.1 80 = .ok (.lconst 1, 1) := by decide +kernel
theorem d_TrustDeskModel_propose_81 : decode kY_TrustDeskModel_propose.2.1 81 = .ok (.ldc2_w 421, 3) := by decide +kernel
theorem d_TrustDeskModel_propose_84 : decode kY_TrustDeskModel_propose.2.1 84 = .ok (.invokestatic 169, 3) := by decide +kernel
theorem d_TrustDeskModel_propose_87 : decode kY_TrustDeskModel_propose.2.1 87 = .ok (.goto 12, 3) := by decide +kernel
theorem d_TrustDeskModel_propose_65 : decode kY_TrustDeskModel_propose.2.1 65 = .ok (.aload_n 0, 1) := by decide +kernel
theorem d_TrustDeskModel_propose_66 : decode kY_TrustDeskModel_propose.2.1 66 = .ok (.iload_n 3, 1) := by decide +kernel
theorem d_TrustDeskModel_propose_67 : decode kY_TrustDeskModel_propose.2.1 67 = .ok (.invokevirtual 418, 3) := by decide +kernel
theorem d_TrustDeskModel_propose_70 : decode kY_TrustDeskModel_propose.2.1 70 = .ok (.goto 29, 3) := by decide +kernel
theorem d_TrustDeskModel_propose_40 : decode kY_TrustDeskModel_propose.2.1 40 = .ok (.iload_n 3, 1) := by decide +kernel
theorem d_TrustDeskModel_propose_41 : decode kY_TrustDeskModel_propose.2.1 41 = .ok (.ifCond .lt 15, 3) := by decide +kernel
theorem d_TrustDeskModel_propose_56 : decode kY_TrustDeskModel_propose.2.1 56 = .ok (.iconst 0, 1) := by decide +kernel
theorem d_TrustDeskModel_propose_57 : decode kY_TrustDeskModel_propose.2.1 57 = .ok (.goto 42, 3) := by decide +kernel
theorem d_TrustDeskModel_propose_44 : decode kY_TrustDeskModel_propose.2.1 44 = .ok (.iload_n 3, 1) := by decide +kernel
theorem d_TrustDeskModel_propose_45 : decode kY_TrustDeskModel_propose.2.1 45 = .ok (.aload_n 0, 1) := by decide +kernel
theorem d_TrustDeskModel_propose_46 : decode kY_TrustDeskModel_propose.2.1 46 = .ok (.getfield 435, 3) := by decide +kernel
theorem d_TrustDeskModel_propose_49 : decode kY_TrustDeskModel_propose.2.1 49 = .ok (.if_icmp .ge 7, 3) := by decide +kernel
theorem d_TrustDeskModel_propose_52 : decode kY_TrustDeskModel_propose.2.1 52 = .ok (.iconst 1, 1) := by decide +kernel
theorem d_TrustDeskModel_propose_53 : decode kY_TrustDeskModel_propose.2.1 53 = .ok (.goto 46, 3) := by decide +kernel
abbrev kY_TrustDeskModel_vote : mj_Y := (⟨"TrustDeskModel", "vote", "(IIZ)Z"⟩, prog_14_method_77_code, 5, (Option.some Jvm.ClassFile.FieldType.boolean))
theorem d_TrustDeskModel_vote_0 : decode kY_TrustDeskModel_vote.2.1 0 = .ok (.aload_n 0, 1) := by decide +kernel
theorem d_TrustDeskModel_vote_1 : decode kY_TrustDeskModel_vote.2.1 1 = .ok (.iconst 0, 1) := by decide +kernel
theorem d_TrustDeskModel_vote_2 : decode kY_TrustDeskModel_vote.2.1 2 = .ok (.putfield 1, 3) := by decide +kernel
theorem d_TrustDeskModel_vote_5 : decode kY_TrustDeskModel_vote.2.1 5 = .ok (.aload_n 0, 1) := by decide +kernel
theorem d_TrustDeskModel_vote_6 : decode kY_TrustDeskModel_vote.2.1 6 = .ok (.iload_n 1, 1) := by decide +kernel
theorem d_TrustDeskModel_vote_7 : decode kY_TrustDeskModel_vote.2.1 7 = .ok (.invokevirtual 506, 3) := by decide +kernel
theorem d_TrustDeskModel_vote_10 : decode kY_TrustDeskModel_vote.2.1 10 = .ok (.ifCond .eq 19, 3) := by decide +kernel
theorem d_TrustDeskModel_vote_29 : decode kY_TrustDeskModel_vote.2.1 29 = .ok (.iconst 0, 1) := by decide +kernel
theorem d_TrustDeskModel_vote_30 : decode kY_TrustDeskModel_vote.2.1 30 = .ok (.ireturn, 1) := by decide +kernel
theorem d_TrustDeskModel_vote_13 : decode kY_TrustDeskModel_vote.2.1 13 = .ok (.iload_n 2, 1) := by decide +kernel
theorem d_TrustDeskModel_vote_14 : decode kY_TrustDeskModel_vote.2.1 14 = .ok (.invokestatic 495, 3) := by decide +kernel
theorem d_TrustDeskModel_vote_17 : decode kY_TrustDeskModel_vote.2.1 17 = .ok (.ifCond .eq 12, 3) := by decide +kernel
theorem d_TrustDeskModel_vote_20 : decode kY_TrustDeskModel_vote.2.1 20 = .ok (.aload_n 0, 1) := by decide +kernel
theorem d_TrustDeskModel_vote_21 : decode kY_TrustDeskModel_vote.2.1 21 = .ok (.getfield 137, 3) := by decide +kernel
theorem d_TrustDeskModel_vote_24 : decode kY_TrustDeskModel_vote.2.1 24 = .ok (.iload_n 1, 1) := by decide +kernel
theorem d_TrustDeskModel_vote_25 : decode kY_TrustDeskModel_vote.2.1 25 = .ok (.iaload, 1) := by decide +kernel
theorem d_TrustDeskModel_vote_26 : decode kY_TrustDeskModel_vote.2.1 26 = .ok (.ifCond .eq 5, 3) := by decide +kernel
theorem d_TrustDeskModel_vote_31 : decode kY_TrustDeskModel_vote.2.1 31 = .ok (.aload_n 0, 1) := by decide +kernel
theorem d_TrustDeskModel_vote_32 : decode kY_TrustDeskModel_vote.2.1 32 = .ok (.getfield 88, 3) := by decide +kernel
theorem d_TrustDeskModel_vote_35 : decode kY_TrustDeskModel_vote.2.1 35 = .ok (.bipush 100, 2) := by decide +kernel
theorem d_TrustDeskModel_vote_37 : decode kY_TrustDeskModel_vote.2.1 37 = .ok (.aload_n 0, 1) := by decide +kernel
theorem d_TrustDeskModel_vote_38 : decode kY_TrustDeskModel_vote.2.1 38 = .ok (.getfield 125, 3) := by decide +kernel
theorem d_TrustDeskModel_vote_41 : decode kY_TrustDeskModel_vote.2.1 41 = .ok (.iload_n 1, 1) := by decide +kernel
theorem d_TrustDeskModel_vote_42 : decode kY_TrustDeskModel_vote.2.1 42 = .ok (.iaload, 1) := by decide +kernel
theorem d_TrustDeskModel_vote_43 : decode kY_TrustDeskModel_vote.2.1 43 = .ok (.imul, 1) := by decide +kernel
theorem d_TrustDeskModel_vote_44 : decode kY_TrustDeskModel_vote.2.1 44 = .ok (.iload_n 2, 1) := by decide +kernel
theorem d_TrustDeskModel_vote_45 : decode kY_TrustDeskModel_vote.2.1 45 = .ok (.iadd, 1) := by decide +kernel
theorem d_TrustDeskModel_vote_46 : decode kY_TrustDeskModel_vote.2.1 46 = .ok (.baload, 1) := by decide +kernel
theorem d_TrustDeskModel_vote_47 : decode kY_TrustDeskModel_vote.2.1 47 = .ok (.ifCond .ne 32, 3) := by decide +kernel
theorem d_TrustDeskModel_vote_79 : decode kY_TrustDeskModel_vote.2.1 79 = .ok (.iconst 1, 1) := by decide +kernel
theorem d_TrustDeskModel_vote_80 : decode kY_TrustDeskModel_vote.2.1 80 = .ok (.goto 4, 3) := by decide +kernel
theorem d_TrustDeskModel_vote_84 : decode kY_TrustDeskModel_vote.2.1 84 = .ok (.istore 4, 2) := by decide +kernel
theorem d_TrustDeskModel_vote_86 : decode kY_TrustDeskModel_vote.2.1 86 = .ok (.iload 4, 2) := by decide +kernel
theorem d_TrustDeskModel_vote_88 : decode kY_TrustDeskModel_vote.2.1 88 = .ok (.ifCond .ne 5, 3) := by decide +kernel
theorem d_TrustDeskModel_vote_93 : decode kY_TrustDeskModel_vote.2.1 93 = .ok (.aload_n 0, 1) := by decide +kernel
theorem d_TrustDeskModel_vote_94 : decode kY_TrustDeskModel_vote.2.1 94 = .ok (.getfield 146, 3) := by decide +kernel
theorem d_TrustDeskModel_vote_97 : decode kY_TrustDeskModel_vote.2.1 97 = .ok (.bipush 100, 2) := by decide +kernel
theorem d_TrustDeskModel_vote_99 : decode kY_TrustDeskModel_vote.2.1 99 = .ok (.iload_n 1, 1) := by decide +kernel
theorem d_TrustDeskModel_vote_100 : decode kY_TrustDeskModel_vote.2.1 100 = .ok (.imul, 1) := by decide +kernel
theorem d_TrustDeskModel_vote_101 : decode kY_TrustDeskModel_vote.2.1 101 = .ok (.iload_n 2, 1) := by decide +kernel
theorem d_TrustDeskModel_vote_102 : decode kY_TrustDeskModel_vote.2.1 102 = .ok (.iadd, 1) := by decide +kernel
theorem d_TrustDeskModel_vote_103 : decode kY_TrustDeskModel_vote.2.1 103 = .ok (.iload_n 3, 1) := by decide +kernel
theorem d_TrustDeskModel_vote_104 : decode kY_TrustDeskModel_vote.2.1 104 = .ok (.ifCond .eq 7, 3) := by decide +kernel
theorem d_TrustDeskModel_vote_111 : decode kY_TrustDeskModel_vote.2.1 111 = .ok (.iconst 2, 1) := by decide +kernel
theorem d_TrustDeskModel_vote_112 : decode kY_TrustDeskModel_vote.2.1 112 = .ok (.iastore, 1) := by decide +kernel
theorem d_TrustDeskModel_vote_113 : decode kY_TrustDeskModel_vote.2.1 113 = .ok (.iconst 1, 1) := by decide +kernel
theorem d_TrustDeskModel_vote_114 : decode kY_TrustDeskModel_vote.2.1 114 = .ok (.ireturn, 1) := by decide +kernel
theorem d_TrustDeskModel_vote_107 : decode kY_TrustDeskModel_vote.2.1 107 = .ok (.iconst 1, 1) := by decide +kernel
theorem d_TrustDeskModel_vote_108 : decode kY_TrustDeskModel_vote.2.1 108 = .ok (.goto 4, 3) := by decide +kernel
theorem d_TrustDeskModel_vote_50 : decode kY_TrustDeskModel_vote.2.1 50 = .ok (.aload_n 0, 1) := by decide +kernel
theorem d_TrustDeskModel_vote_51 : decode kY_TrustDeskModel_vote.2.1 51 = .ok (.getfield 122, 3) := by decide +kernel
theorem d_TrustDeskModel_vote_54 : decode kY_TrustDeskModel_vote.2.1 54 = .ok (.iload_n 1, 1) := by decide +kernel
theorem d_TrustDeskModel_vote_55 : decode kY_TrustDeskModel_vote.2.1 55 = .ok (.iaload, 1) := by decide +kernel
theorem d_TrustDeskModel_vote_56 : decode kY_TrustDeskModel_vote.2.1 56 = .ok (.iconst 1, 1) := by decide +kernel
theorem d_TrustDeskModel_vote_57 : decode kY_TrustDeskModel_vote.2.1 57 = .ok (.if_icmp .ne 26, 3) := by decide +kernel
theorem d_TrustDeskModel_vote_83 : decode kY_TrustDeskModel_vote.2.1 83 = .ok (.iconst 0, 1) := by decide +kernel
theorem d_TrustDeskModel_vote_91 : decode kY_TrustDeskModel_vote.2.1 91 = .ok (.iconst 0, 1) := by decide +kernel
theorem d_TrustDeskModel_vote_92 : decode kY_TrustDeskModel_vote.2.1 92 = .ok (.ireturn, 1) := by decide +kernel
theorem d_TrustDeskModel_vote_60 : decode kY_TrustDeskModel_vote.2.1 60 = .ok (.aload_n 0, 1) := by decide +kernel
theorem d_TrustDeskModel_vote_61 : decode kY_TrustDeskModel_vote.2.1 61 = .ok (.getfield 88, 3) := by decide +kernel
theorem d_TrustDeskModel_vote_64 : decode kY_TrustDeskModel_vote.2.1 64 = .ok (.bipush 100, 2) := by decide +kernel
theorem d_TrustDeskModel_vote_66 : decode kY_TrustDeskModel_vote.2.1 66 = .ok (.aload_n 0, 1) := by decide +kernel
theorem d_TrustDeskModel_vote_67 : decode kY_TrustDeskModel_vote.2.1 67 = .ok (.getfield 128, 3) := by decide +kernel
theorem d_TrustDeskModel_vote_70 : decode kY_TrustDeskModel_vote.2.1 70 = .ok (.iload_n 1, 1) := by decide +kernel
theorem d_TrustDeskModel_vote_71 : decode kY_TrustDeskModel_vote.2.1 71 = .ok (.iaload, 1) := by decide +kernel
theorem d_TrustDeskModel_vote_72 : decode kY_TrustDeskModel_vote.2.1 72 = .ok (.imul, 1) := by decide +kernel
theorem d_TrustDeskModel_vote_73 : decode kY_TrustDeskModel_vote.2.1 73 = .ok (.iload_n 2, 1) := by decide +kernel
theorem d_TrustDeskModel_vote_74 : decode kY_TrustDeskModel_vote.2.1 74 = .ok (.iadd, 1) := by decide +kernel
theorem d_TrustDeskModel_vote_75 : decode kY_TrustDeskModel_vote.2.1 75 = .ok (.baload, 1) := by decide +kernel
theorem d_TrustDeskModel_vote_76 : decode kY_TrustDeskModel_vote.2.1 76 = .ok (.ifCond .eq 7, 3) := by decide +kernel
def w_TrustDeskModel_vote_x : List Nat := [1300, 20062]
set_option maxHeartbeats 100000000 in theorem tc_TrustDeskModel_vote_x {g : mj_G} {l : Launch} {d : Nat} {T0 : tm_H} {M0 : mj_M} {n0 x9 : Nat} {o0 : Nat} {x1 : Int32} {x2 : Int32} {x3 : Int32} (h_o0 : T0 o0 = some (0, 13, 0)) (hn0 : 0 ≤ x3.toInt ∧ x3.toInt ≤ 1) (yR : rI M0 o0) (yX : rX M0 o0) (I0 : tm_I tm_FT (tm_in w_TrustDeskModel_vote_x) x9 T0 M0 n0 T0 M0 n0) : mj_Met g l kY_TrustDeskModel_vote (d + 1) [.ref o0, .int x1, .int x2, .int x3] M0 n0 0 0 (tm_Q tm_FT (tm_in w_TrustDeskModel_vote_x) x9 T0 M0 n0 (fun r _ M => ∃ v : Int32, r = some (.int v) ∧ 0 ≤ v.toInt ∧ v.toInt ≤ 1 ∧ rI M o0)) := by
  refine mj_enter (by decide) (Nat.le_of_ble_eq_true rfl) ?_
  have K1 : rX M0 o0 := yX
  refine mv_aload_n d_TrustDeskModel_vote_0 rfl rfl ?_
  refine mv_iconst (v := 0) d_TrustDeskModel_vote_1 (by decide) ?_
  refine tr_putR (k := 0) I0 yR h_o0 rfl ⟨_, rfl⟩ (fun _ h => by cases h) rfl (fun lo hi h => by cases h) (Or.inl (by decide)) d_TrustDeskModel_vote_2 p_TrustDeskModel_1_13 rfl rfl (fun M2 I3 q4 K5 R6 A7 V8 => ?_)
  have z9 := (V8 32 (by decide))
  have z10 := (V8 53 (by decide))
  have K11 : rX M2 o0 := K1.same (sA_f A7 (by decide)) (sF_f V8 (by decide))
  refine mv_aload_n d_TrustDeskModel_vote_5 rfl rfl ?_
  refine mv_iload_n d_TrustDeskModel_vote_6 rfl rfl ?_
  obtain ⟨_, b12, -⟩ := I3.1 _ _ h_o0
  refine mv_callV (kc1 := 0) (ks1 := 0) (kc' := 0) (ks' := 0) (As := [.int x1]) (st9 := [.int x1, .ref o0]) d_TrustDeskModel_vote_7 lV_TrustDeskModel_506 b12 rfl (mj_enter (by decide) (Nat.le_of_ble_eq_true rfl) ?_) rfl (Nat.le_of_ble_eq_true rfl) (Nat.le_of_ble_eq_true rfl) (Nat.le_of_ble_eq_true rfl) (hst := rfl) (fun _ _ _ h => h)
  refine mv_iload_n d_TrustDeskModel_isScheme_0 rfl rfl ?_
  have := mz_hi x1
  refine mv_if_ltZ (tgt := 16) (a := x1.toInt) d_TrustDeskModel_isScheme_1 (by decide) rfl (fun b13 => ?_) (fun b13 => ?_)
  · refine mv_iconst (v := 0) d_TrustDeskModel_isScheme_16 (by decide) ?_
    refine mv_iret d_TrustDeskModel_isScheme_17 rfl (by decide) ?_
    refine mv_if_eq_t (tgt := 29) d_TrustDeskModel_vote_10 (by decide) (by decide) ?_
    refine mv_iconst (v := 0) d_TrustDeskModel_vote_29 (by decide) ?_
    exact mv_iret d_TrustDeskModel_vote_30 rfl (by decide) ⟨_, I3, _, rfl, by decide, by decide, R6⟩
  · refine mv_iload_n d_TrustDeskModel_isScheme_4 rfl rfl ?_
    refine mv_aload_n d_TrustDeskModel_isScheme_5 rfl rfl ?_
    obtain ⟨v15, q14⟩ := tm_atI I3 h_o0 (k := 53) rfl
    refine tr_getK q14 d_TrustDeskModel_isScheme_6 f_TrustDeskModel_501_13 ?_
    have := R6.f (k := 53) q14 rfl
    have := (tm_rv q14).symm.trans z10
    have := tm_rv q14
    have := mz_hi x1
    have := mz_hi v15
    refine mv_icmp_geZ (tgt := 16) (a := x1.toInt) (b := v15.toInt) d_TrustDeskModel_isScheme_9 (by decide) rfl rfl (fun b16 => ?_) (fun b16 => ?_)
    · refine mv_iconst (v := 0) d_TrustDeskModel_isScheme_16 (by decide) ?_
      refine mv_iret d_TrustDeskModel_isScheme_17 rfl (by decide) ?_
      refine mv_if_eq_t (tgt := 29) d_TrustDeskModel_vote_10 (by decide) (by decide) ?_
      refine mv_iconst (v := 0) d_TrustDeskModel_vote_29 (by decide) ?_
      exact mv_iret d_TrustDeskModel_vote_30 rfl (by decide) ⟨_, I3, _, rfl, by decide, by decide, R6⟩
    · refine mv_iconst (v := 1) d_TrustDeskModel_isScheme_12 (by decide) ?_
      refine mv_goto (tgt := 17) d_TrustDeskModel_isScheme_13 (by decide) ?_
      refine mv_iret d_TrustDeskModel_isScheme_17 rfl (by decide) ?_
      refine mv_if_eq_f (tgt := 29) d_TrustDeskModel_vote_10 (by decide) (by decide) ?_
      refine mv_iload_n d_TrustDeskModel_vote_13 rfl rfl ?_
      refine mv_callS (kc1 := 0) (ks1 := 0) (kc' := 0) (ks' := 0) (As := [.int x2]) (st9 := [.int x2]) d_TrustDeskModel_vote_14 lS_TrustDeskModel_495 (mj_enter (by decide) (Nat.le_of_ble_eq_true rfl) ?_) rfl (Nat.le_of_ble_eq_true rfl) (Nat.le_of_ble_eq_true rfl) (Nat.le_of_ble_eq_true rfl) (hst := rfl) (fun _ _ _ h => h)
      refine mv_iload_n d_TrustDeskModel_isPerson_0 rfl rfl ?_
      have := mz_hi x2
      refine mv_if_ltZ (tgt := 14) (a := x2.toInt) d_TrustDeskModel_isPerson_1 (by decide) rfl (fun b17 => ?_) (fun b17 => ?_)
      · refine mv_iconst (v := 0) d_TrustDeskModel_isPerson_14 (by decide) ?_
        refine mv_iret d_TrustDeskModel_isPerson_15 rfl (by decide) ?_
        refine mv_if_eq_t (tgt := 29) d_TrustDeskModel_vote_17 (by decide) (by decide) ?_
        refine mv_iconst (v := 0) d_TrustDeskModel_vote_29 (by decide) ?_
        exact mv_iret d_TrustDeskModel_vote_30 rfl (by decide) ⟨_, I3, _, rfl, by decide, by decide, R6⟩
      · refine mv_iload_n d_TrustDeskModel_isPerson_4 rfl rfl ?_
        refine mv_bipush (v := 100) d_TrustDeskModel_isPerson_5 (by decide) ?_
        have := mz_hi x2
        refine mv_icmp_geZ (tgt := 14) (a := x2.toInt) (b := 100) d_TrustDeskModel_isPerson_7 (by decide) rfl (by decide) (fun b18 => ?_) (fun b18 => ?_)
        · refine mv_iconst (v := 0) d_TrustDeskModel_isPerson_14 (by decide) ?_
          refine mv_iret d_TrustDeskModel_isPerson_15 rfl (by decide) ?_
          refine mv_if_eq_t (tgt := 29) d_TrustDeskModel_vote_17 (by decide) (by decide) ?_
          refine mv_iconst (v := 0) d_TrustDeskModel_vote_29 (by decide) ?_
          exact mv_iret d_TrustDeskModel_vote_30 rfl (by decide) ⟨_, I3, _, rfl, by decide, by decide, R6⟩
        · refine mv_iconst (v := 1) d_TrustDeskModel_isPerson_10 (by decide) ?_
          refine mv_goto (tgt := 15) d_TrustDeskModel_isPerson_11 (by decide) ?_
          refine mv_iret d_TrustDeskModel_isPerson_15 rfl (by decide) ?_
          refine mv_if_eq_f (tgt := 29) d_TrustDeskModel_vote_17 (by decide) (by decide) ?_
          refine mv_aload_n d_TrustDeskModel_vote_20 rfl rfl ?_
          obtain ⟨a20, q19, t_a20⟩ := tm_atR I3 h_o0 (k := 59) rfl
          refine tr_getK q19 d_TrustDeskModel_vote_21 f_TrustDeskModel_137_13 ?_
          refine mv_iload_n d_TrustDeskModel_vote_24 rfl rfl ?_
          refine tr_ialdR (o := o0) (k := 59) I3 q19 t_a20 (by decide) d_TrustDeskModel_vote_25 (vp_in_iff.mpr (by have := R6.1 32 _ _ rfl; have := R6.1 53 _ _ rfl; omega)) (fun v21 e22 => ?_)
          have := mz_hi v21
          refine mv_if_eqZ (tgt := 31) (a := v21.toInt) d_TrustDeskModel_vote_26 (by decide) rfl (fun b23 => ?_) (fun b23 => ?_)
          · refine mv_aload_n d_TrustDeskModel_vote_31 rfl rfl ?_
            obtain ⟨a25, q24, t_a25⟩ := tm_atR I3 h_o0 (k := 40) rfl
            refine tr_getK q24 d_TrustDeskModel_vote_32 f_TrustDeskModel_88_13 ?_
            refine mv_bipush (v := 100) d_TrustDeskModel_vote_35 (by decide) ?_
            refine mv_aload_n d_TrustDeskModel_vote_37 rfl rfl ?_
            obtain ⟨a27, q26, t_a27⟩ := tm_atR I3 h_o0 (k := 55) rfl
            refine tr_getK q26 d_TrustDeskModel_vote_38 f_TrustDeskModel_125_13 ?_
            refine mv_iload_n d_TrustDeskModel_vote_41 rfl rfl ?_
            refine tr_ialdR (o := o0) (k := 55) I3 q26 t_a27 (by decide) d_TrustDeskModel_vote_42 (vp_in_iff.mpr (by have := R6.1 32 _ _ rfl; have := R6.1 53 _ _ rfl; omega)) (fun v28 e29 => ?_)
            have := R6.a (k := 55) rfl (x1 : Int32).toNatClampNeg
            refine mv_imul d_TrustDeskModel_vote_43 ?_
            refine mv_iload_n d_TrustDeskModel_vote_44 rfl rfl ?_
            refine mv_iadd d_TrustDeskModel_vote_45 ?_
            have b30 : (100 * v28 : Int32).toInt = (100 * v28.toInt) := mz_mul2 (by decide) rfl (by have := R6.1 32 _ _ rfl; have := R6.1 53 _ _ rfl; omega) (by have := R6.1 32 _ _ rfl; have := R6.1 53 _ _ rfl; omega)
            have b31 : ((100 * v28) + x2 : Int32).toInt = ((100 * v28.toInt) + x2.toInt) := mz_add2 b30 rfl (by have := R6.1 32 _ _ rfl; have := R6.1 53 _ _ rfl; omega) (by have := R6.1 32 _ _ rfl; have := R6.1 53 _ _ rfl; omega)
            refine tr_zaldR (o := o0) (k := 40) I3 q24 t_a25 (by decide) d_TrustDeskModel_vote_46 (vp_in_iff.mpr (by have := R6.1 32 _ _ rfl; have := R6.1 53 _ _ rfl; omega)) (fun v32 e33 => ?_)
            have := mz_hi v32
            refine mv_if_neZ (tgt := 79) (a := v32.toInt) d_TrustDeskModel_vote_47 (by decide) rfl (fun b34 => ?_) (fun b34 => ?_)
            · refine mv_iconst (v := 1) d_TrustDeskModel_vote_79 (by decide) ?_
              refine mv_goto (tgt := 84) d_TrustDeskModel_vote_80 (by decide) ?_
              refine mv_istore (lv' := [(4, .int 1), (0, .ref o0), (1, .int x1), (2, .int x2), (3, .int x3)]) d_TrustDeskModel_vote_84 (by decide) rfl ?_
              refine mv_iload d_TrustDeskModel_vote_86 rfl ?_
              refine mv_if_ne_t (tgt := 93) d_TrustDeskModel_vote_88 (by decide) (by decide) ?_
              refine mv_aload_n d_TrustDeskModel_vote_93 rfl rfl ?_
              obtain ⟨a36, q35, t_a36⟩ := tm_atR I3 h_o0 (k := 62) rfl
              refine tr_getK q35 d_TrustDeskModel_vote_94 f_TrustDeskModel_146_13 ?_
              refine mv_bipush (v := 100) d_TrustDeskModel_vote_97 (by decide) ?_
              refine mv_iload_n d_TrustDeskModel_vote_99 rfl rfl ?_
              refine mv_imul d_TrustDeskModel_vote_100 ?_
              refine mv_iload_n d_TrustDeskModel_vote_101 rfl rfl ?_
              refine mv_iadd d_TrustDeskModel_vote_102 ?_
              refine mv_iload_n d_TrustDeskModel_vote_103 rfl rfl ?_
              have := mz_hi x3
              refine mv_if_eqZ (tgt := 111) (a := x3.toInt) d_TrustDeskModel_vote_104 (by decide) rfl (fun b37 => ?_) (fun b37 => ?_)
              · refine mv_iconst (v := 2) d_TrustDeskModel_vote_111 (by decide) ?_
                have b38 : (100 * x1 : Int32).toInt = (100 * x1.toInt) := mz_mul2 (by decide) rfl (by have := R6.1 32 _ _ rfl; have := R6.1 53 _ _ rfl; omega) (by have := R6.1 32 _ _ rfl; have := R6.1 53 _ _ rfl; omega)
                have b39 : ((100 * x1) + x2 : Int32).toInt = ((100 * x1.toInt) + x2.toInt) := mz_add2 b38 rfl (by have := R6.1 32 _ _ rfl; have := R6.1 53 _ _ rfl; omega) (by have := R6.1 32 _ _ rfl; have := R6.1 53 _ _ rfl; omega)
                refine tr_iastR (k := 62) I3 R6 (I3.up h_o0) q35 t_a36 (by decide) (by decide) (fun lo hi h => by cases h) (Or.inl (by decide)) d_TrustDeskModel_vote_112 (vp_in_iff.mpr (by have := R6.1 32 _ _ rfl; have := R6.1 53 _ _ rfl; omega)) (fun M40 I41 K42 R43 E44 A45 V46 => ?_)
                have z47 := (V46 32).trans z9
                have z48 := (V46 53).trans z10
                have K49 : rX M40 o0 := K11.same (sA_a A45 (by decide +kernel)) (sF_a V46)
                clear z9 z10
                refine mv_iconst (v := 1) d_TrustDeskModel_vote_113 (by decide) ?_
                exact mv_iret d_TrustDeskModel_vote_114 rfl (by decide) ⟨_, I41, _, rfl, by decide, by decide, R43⟩
              · refine mv_iconst (v := 1) d_TrustDeskModel_vote_107 (by decide) ?_
                refine mv_goto (tgt := 112) d_TrustDeskModel_vote_108 (by decide) ?_
                have b50 : (100 * x1 : Int32).toInt = (100 * x1.toInt) := mz_mul2 (by decide) rfl (by have := R6.1 32 _ _ rfl; have := R6.1 53 _ _ rfl; omega) (by have := R6.1 32 _ _ rfl; have := R6.1 53 _ _ rfl; omega)
                have b51 : ((100 * x1) + x2 : Int32).toInt = ((100 * x1.toInt) + x2.toInt) := mz_add2 b50 rfl (by have := R6.1 32 _ _ rfl; have := R6.1 53 _ _ rfl; omega) (by have := R6.1 32 _ _ rfl; have := R6.1 53 _ _ rfl; omega)
                refine tr_iastR (k := 62) I3 R6 (I3.up h_o0) q35 t_a36 (by decide) (by decide) (fun lo hi h => by cases h) (Or.inl (by decide)) d_TrustDeskModel_vote_112 (vp_in_iff.mpr (by have := R6.1 32 _ _ rfl; have := R6.1 53 _ _ rfl; omega)) (fun M52 I53 K54 R55 E56 A57 V58 => ?_)
                have z59 := (V58 32).trans z9
                have z60 := (V58 53).trans z10
                have K61 : rX M52 o0 := K11.same (sA_a A57 (by decide +kernel)) (sF_a V58)
                clear z9 z10
                refine mv_iconst (v := 1) d_TrustDeskModel_vote_113 (by decide) ?_
                exact mv_iret d_TrustDeskModel_vote_114 rfl (by decide) ⟨_, I53, _, rfl, by decide, by decide, R55⟩
            · refine mv_aload_n d_TrustDeskModel_vote_50 rfl rfl ?_
              obtain ⟨a63, q62, t_a63⟩ := tm_atR I3 h_o0 (k := 54) rfl
              refine tr_getK q62 d_TrustDeskModel_vote_51 f_TrustDeskModel_122_13 ?_
              refine mv_iload_n d_TrustDeskModel_vote_54 rfl rfl ?_
              refine tr_ialdR (o := o0) (k := 54) I3 q62 t_a63 (by decide) d_TrustDeskModel_vote_55 (vp_in_iff.mpr (by have := R6.1 32 _ _ rfl; have := R6.1 53 _ _ rfl; omega)) (fun v64 e65 => ?_)
              have := R6.a (k := 54) rfl (x1 : Int32).toNatClampNeg
              have := K11 x1.toNatClampNeg (by have := mz_nat9 (i := x1) (by have := R6.1 32 _ _ rfl; have := R6.1 53 _ _ rfl; omega); omega) (by have := mz_nat9 (i := x1) (by have := R6.1 32 _ _ rfl; have := R6.1 53 _ _ rfl; omega); omega)
              refine mv_iconst (v := 1) d_TrustDeskModel_vote_56 (by decide) ?_
              have := mz_hi v64
              refine mv_icmp_neZ (tgt := 83) (a := v64.toInt) (b := 1) d_TrustDeskModel_vote_57 (by decide) rfl (by decide) (fun b66 => ?_) (fun b66 => ?_)
              · refine mv_iconst (v := 0) d_TrustDeskModel_vote_83 (by decide) ?_
                refine mv_istore (lv' := [(4, .int 0), (0, .ref o0), (1, .int x1), (2, .int x2), (3, .int x3)]) d_TrustDeskModel_vote_84 (by decide) rfl ?_
                refine mv_iload d_TrustDeskModel_vote_86 rfl ?_
                refine mv_if_ne_f (tgt := 93) d_TrustDeskModel_vote_88 (by decide) (by decide) ?_
                refine mv_iconst (v := 0) d_TrustDeskModel_vote_91 (by decide) ?_
                exact mv_iret d_TrustDeskModel_vote_92 rfl (by decide) ⟨_, I3, _, rfl, by decide, by decide, R6⟩
              · refine mv_aload_n d_TrustDeskModel_vote_60 rfl rfl ?_
                refine tr_getK (k := 40) q24 d_TrustDeskModel_vote_61 f_TrustDeskModel_88_13 ?_
                refine mv_bipush (v := 100) d_TrustDeskModel_vote_64 (by decide) ?_
                refine mv_aload_n d_TrustDeskModel_vote_66 rfl rfl ?_
                obtain ⟨a68, q67, t_a68⟩ := tm_atR I3 h_o0 (k := 56) rfl
                refine tr_getK q67 d_TrustDeskModel_vote_67 f_TrustDeskModel_128_13 ?_
                refine mv_iload_n d_TrustDeskModel_vote_70 rfl rfl ?_
                refine tr_ialdR (o := o0) (k := 56) I3 q67 t_a68 (by decide) d_TrustDeskModel_vote_71 (vp_in_iff.mpr (by have := R6.1 32 _ _ rfl; have := R6.1 53 _ _ rfl; omega)) (fun v69 e70 => ?_)
                have := K11 x1.toNatClampNeg (by have := mz_nat9 (i := x1) (by have := R6.1 32 _ _ rfl; have := R6.1 53 _ _ rfl; omega); omega) (by have := mz_nat9 (i := x1) (by have := R6.1 32 _ _ rfl; have := R6.1 53 _ _ rfl; omega); omega)
                refine mv_imul d_TrustDeskModel_vote_72 ?_
                refine mv_iload_n d_TrustDeskModel_vote_73 rfl rfl ?_
                refine mv_iadd d_TrustDeskModel_vote_74 ?_
                have b71 : (100 * v69 : Int32).toInt = (100 * v69.toInt) := mz_mul2 (by decide) rfl (by have := R6.1 32 _ _ rfl; have := R6.1 53 _ _ rfl; omega) (by have := R6.1 32 _ _ rfl; have := R6.1 53 _ _ rfl; omega)
                have b72 : ((100 * v69) + x2 : Int32).toInt = ((100 * v69.toInt) + x2.toInt) := mz_add2 b71 rfl (by have := R6.1 32 _ _ rfl; have := R6.1 53 _ _ rfl; omega) (by have := R6.1 32 _ _ rfl; have := R6.1 53 _ _ rfl; omega)
                refine tr_zaldR (o := o0) (k := 40) I3 q24 t_a25 (by decide) d_TrustDeskModel_vote_75 (vp_in_iff.mpr (by have := R6.1 32 _ _ rfl; have := R6.1 53 _ _ rfl; omega)) (fun v73 e74 => ?_)
                have := mz_hi v73
                refine mv_if_eqZ (tgt := 83) (a := v73.toInt) d_TrustDeskModel_vote_76 (by decide) rfl (fun b75 => ?_) (fun b75 => ?_)
                · refine mv_iconst (v := 0) d_TrustDeskModel_vote_83 (by decide) ?_
                  refine mv_istore (lv' := [(4, .int 0), (0, .ref o0), (1, .int x1), (2, .int x2), (3, .int x3)]) d_TrustDeskModel_vote_84 (by decide) rfl ?_
                  refine mv_iload d_TrustDeskModel_vote_86 rfl ?_
                  refine mv_if_ne_f (tgt := 93) d_TrustDeskModel_vote_88 (by decide) (by decide) ?_
                  refine mv_iconst (v := 0) d_TrustDeskModel_vote_91 (by decide) ?_
                  exact mv_iret d_TrustDeskModel_vote_92 rfl (by decide) ⟨_, I3, _, rfl, by decide, by decide, R6⟩
                · refine mv_iconst (v := 1) d_TrustDeskModel_vote_79 (by decide) ?_
                  refine mv_goto (tgt := 84) d_TrustDeskModel_vote_80 (by decide) ?_
                  refine mv_istore (lv' := [(4, .int 1), (0, .ref o0), (1, .int x1), (2, .int x2), (3, .int x3)]) d_TrustDeskModel_vote_84 (by decide) rfl ?_
                  refine mv_iload d_TrustDeskModel_vote_86 rfl ?_
                  refine mv_if_ne_t (tgt := 93) d_TrustDeskModel_vote_88 (by decide) (by decide) ?_
                  refine mv_aload_n d_TrustDeskModel_vote_93 rfl rfl ?_
                  obtain ⟨a77, q76, t_a77⟩ := tm_atR I3 h_o0 (k := 62) rfl
                  refine tr_getK q76 d_TrustDeskModel_vote_94 f_TrustDeskModel_146_13 ?_
                  refine mv_bipush (v := 100) d_TrustDeskModel_vote_97 (by decide) ?_
                  refine mv_iload_n d_TrustDeskModel_vote_99 rfl rfl ?_
                  refine mv_imul d_TrustDeskModel_vote_100 ?_
                  refine mv_iload_n d_TrustDeskModel_vote_101 rfl rfl ?_
                  refine mv_iadd d_TrustDeskModel_vote_102 ?_
                  refine mv_iload_n d_TrustDeskModel_vote_103 rfl rfl ?_
                  have := mz_hi x3
                  refine mv_if_eqZ (tgt := 111) (a := x3.toInt) d_TrustDeskModel_vote_104 (by decide) rfl (fun b78 => ?_) (fun b78 => ?_)
                  · refine mv_iconst (v := 2) d_TrustDeskModel_vote_111 (by decide) ?_
                    have b79 : (100 * x1 : Int32).toInt = (100 * x1.toInt) := mz_mul2 (by decide) rfl (by have := R6.1 32 _ _ rfl; have := R6.1 53 _ _ rfl; omega) (by have := R6.1 32 _ _ rfl; have := R6.1 53 _ _ rfl; omega)
                    have b80 : ((100 * x1) + x2 : Int32).toInt = ((100 * x1.toInt) + x2.toInt) := mz_add2 b79 rfl (by have := R6.1 32 _ _ rfl; have := R6.1 53 _ _ rfl; omega) (by have := R6.1 32 _ _ rfl; have := R6.1 53 _ _ rfl; omega)
                    refine tr_iastR (k := 62) I3 R6 (I3.up h_o0) q76 t_a77 (by decide) (by decide) (fun lo hi h => by cases h) (Or.inl (by decide)) d_TrustDeskModel_vote_112 (vp_in_iff.mpr (by have := R6.1 32 _ _ rfl; have := R6.1 53 _ _ rfl; omega)) (fun M81 I82 K83 R84 E85 A86 V87 => ?_)
                    have z88 := (V87 32).trans z9
                    have z89 := (V87 53).trans z10
                    have K90 : rX M81 o0 := K11.same (sA_a A86 (by decide +kernel)) (sF_a V87)
                    clear z9 z10
                    refine mv_iconst (v := 1) d_TrustDeskModel_vote_113 (by decide) ?_
                    exact mv_iret d_TrustDeskModel_vote_114 rfl (by decide) ⟨_, I82, _, rfl, by decide, by decide, R84⟩
                  · refine mv_iconst (v := 1) d_TrustDeskModel_vote_107 (by decide) ?_
                    refine mv_goto (tgt := 112) d_TrustDeskModel_vote_108 (by decide) ?_
                    have b91 : (100 * x1 : Int32).toInt = (100 * x1.toInt) := mz_mul2 (by decide) rfl (by have := R6.1 32 _ _ rfl; have := R6.1 53 _ _ rfl; omega) (by have := R6.1 32 _ _ rfl; have := R6.1 53 _ _ rfl; omega)
                    have b92 : ((100 * x1) + x2 : Int32).toInt = ((100 * x1.toInt) + x2.toInt) := mz_add2 b91 rfl (by have := R6.1 32 _ _ rfl; have := R6.1 53 _ _ rfl; omega) (by have := R6.1 32 _ _ rfl; have := R6.1 53 _ _ rfl; omega)
                    refine tr_iastR (k := 62) I3 R6 (I3.up h_o0) q76 t_a77 (by decide) (by decide) (fun lo hi h => by cases h) (Or.inl (by decide)) d_TrustDeskModel_vote_112 (vp_in_iff.mpr (by have := R6.1 32 _ _ rfl; have := R6.1 53 _ _ rfl; omega)) (fun M93 I94 K95 R96 E97 A98 V99 => ?_)
                    have z100 := (V99 32).trans z9
                    have z101 := (V99 53).trans z10
                    have K102 : rX M93 o0 := K11.same (sA_a A98 (by decide +kernel)) (sF_a V99)
                    clear z9 z10
                    refine mv_iconst (v := 1) d_TrustDeskModel_vote_113 (by decide) ?_
                    exact mv_iret d_TrustDeskModel_vote_114 rfl (by decide) ⟨_, I94, _, rfl, by decide, by decide, R96⟩
          · refine mv_iconst (v := 0) d_TrustDeskModel_vote_29 (by decide) ?_
            exact mv_iret d_TrustDeskModel_vote_30 rfl (by decide) ⟨_, I3, _, rfl, by decide, by decide, R6⟩
