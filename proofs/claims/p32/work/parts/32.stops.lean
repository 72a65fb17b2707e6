abbrev kY_TrustDeskModel_stops : mj_Y := (⟨"TrustDeskModel", "stops", "(I)I"⟩, prog_14_method_42_code, 5, (Option.some Jvm.ClassFile.FieldType.int))
theorem d_TrustDeskModel_stops_0 : decode kY_TrustDeskModel_stops.2.1 0 = .ok (.aload_n 0, 1) := by decide +kernel
theorem d_TrustDeskModel_stops_1 : decode kY_TrustDeskModel_stops.2.1 1 = .ok (.iconst 0, 1) := by decide +kernel
theorem d_TrustDeskModel_stops_2 : decode kY_TrustDeskModel_stops.2.1 2 = .ok (.putfield 189, 3) := by decide +kernel
theorem p_TrustDeskModel_189_13 : mj_fp "TrustDeskModel" 189 13 14 (kt_TrustDeskModel 14) false := ⟨kR_TrustDeskModel, kF_TrustDeskModel, 72, "TrustDeskModel", kt_TrustDeskModel, rfl, kg_13, by decide, (mj_in1 (List.mem_of_getElem? (i := 1400) (by decide +kernel)) rfl), Or.inl rfl, kto_TrustDeskModel, kn_TrustDeskModel, rfl, rfl, fun h => by cases h⟩
theorem d_TrustDeskModel_stops_5 : decode kY_TrustDeskModel_stops.2.1 5 = .ok (.aload_n 0, 1) := by decide +kernel
theorem d_TrustDeskModel_stops_6 : decode kY_TrustDeskModel_stops.2.1 6 = .ok (.aload_n 0, 1) := by decide +kernel
theorem d_TrustDeskModel_stops_7 : decode kY_TrustDeskModel_stops.2.1 7 = .ok (.invokevirtual 230, 3) := by decide +kernel
theorem d_TrustDeskModel_stops_10 : decode kY_TrustDeskModel_stops.2.1 10 = .ok (.ifCond .eq 7, 3) := by decide +kernel
theorem d_TrustDeskModel_stops_17 : decode kY_TrustDeskModel_stops.2.1 17 = .ok (.aload_n 0, 1) := by decide +kernel
theorem d_TrustDeskModel_stops_18 : decode kY_TrustDeskModel_stops.2.1 18 = .ok (.getfield 227, 3) := by decide +kernel
theorem f_TrustDeskModel_227_13 : mj_fl "TrustDeskModel" 227 13 20 := ⟨kR_TrustDeskModel, kF_TrustDeskModel, 72, "TrustDeskModel", rfl, kg_13, by decide, (mj_in1 (List.mem_of_getElem? (i := 1406) (by decide +kernel)) rfl), Or.inl rfl⟩
theorem d_TrustDeskModel_stops_21 : decode kY_TrustDeskModel_stops.2.1 21 = .ok (.putfield 48, 3) := by decide +kernel
theorem d_TrustDeskModel_stops_24 : decode kY_TrustDeskModel_stops.2.1 24 = .ok (.aload_n 0, 1) := by decide +kernel
theorem d_TrustDeskModel_stops_25 : decode kY_TrustDeskModel_stops.2.1 25 = .ok (.invokevirtual 230, 3) := by decide +kernel
theorem d_TrustDeskModel_stops_28 : decode kY_TrustDeskModel_stops.2.1 28 = .ok (.ifCond .ne 10, 3) := by decide +kernel
theorem d_TrustDeskModel_stops_31 : decode kY_TrustDeskModel_stops.2.1 31 = .ok (.iconst (-1), 1) := by decide +kernel
theorem d_TrustDeskModel_stops_32 : decode kY_TrustDeskModel_stops.2.1 32 = .ok (.aload_n 0, 1) := by decide +kernel
theorem d_TrustDeskModel_stops_33 : decode kY_TrustDeskModel_stops.2.1 33 = .ok (.getfield 224, 3) := by decide +kernel
theorem d_TrustDeskModel_stops_36 : decode kY_TrustDeskModel_stops.2.1 36 = .ok (.isub, 1) := by decide +kernel
theorem d_TrustDeskModel_stops_37 : decode kY_TrustDeskModel_stops.2.1 37 = .ok (.ireturn, 1) := by decide +kernel
theorem d_TrustDeskModel_stops_13 : decode kY_TrustDeskModel_stops.2.1 13 = .ok (.iconst (-1), 1) := by decide +kernel
theorem d_TrustDeskModel_stops_14 : decode kY_TrustDeskModel_stops.2.1 14 = .ok (.goto 7, 3) := by decide +kernel
theorem d_TrustDeskModel_stops_38 : decode kY_TrustDeskModel_stops.2.1 38 = .ok (.aload_n 0, 1) := by decide +kernel
theorem d_TrustDeskModel_stops_39 : decode kY_TrustDeskModel_stops.2.1 39 = .ok (.getfield 20, 3) := by decide +kernel
theorem d_TrustDeskModel_stops_42 : decode kY_TrustDeskModel_stops.2.1 42 = .ok (.iload_n 1, 1) := by decide +kernel
theorem d_TrustDeskModel_stops_43 : decode kY_TrustDeskModel_stops.2.1 43 = .ok (.aload_n 0, 1) := by decide +kernel
theorem d_TrustDeskModel_stops_44 : decode kY_TrustDeskModel_stops.2.1 44 = .ok (.getfield 20, 3) := by decide +kernel
theorem d_TrustDeskModel_stops_47 : decode kY_TrustDeskModel_stops.2.1 47 = .ok (.bipush 44, 2) := by decide +kernel
theorem d_TrustDeskModel_stops_49 : decode kY_TrustDeskModel_stops.2.1 49 = .ok (.iaload, 1) := by decide +kernel
theorem d_TrustDeskModel_stops_50 : decode kY_TrustDeskModel_stops.2.1 50 = .ok (.iastore, 1) := by decide +kernel
theorem d_TrustDeskModel_stops_51 : decode kY_TrustDeskModel_stops.2.1 51 = .ok (.aload_n 0, 1) := by decide +kernel
theorem d_TrustDeskModel_stops_52 : decode kY_TrustDeskModel_stops.2.1 52 = .ok (.getfield 23, 3) := by decide +kernel
theorem d_TrustDeskModel_stops_55 : decode kY_TrustDeskModel_stops.2.1 55 = .ok (.iload_n 1, 1) := by decide +kernel
theorem d_TrustDeskModel_stops_56 : decode kY_TrustDeskModel_stops.2.1 56 = .ok (.aload_n 0, 1) := by decide +kernel
theorem d_TrustDeskModel_stops_57 : decode kY_TrustDeskModel_stops.2.1 57 = .ok (.getfield 23, 3) := by decide +kernel
theorem d_TrustDeskModel_stops_60 : decode kY_TrustDeskModel_stops.2.1 60 = .ok (.bipush 44, 2) := by decide +kernel
theorem d_TrustDeskModel_stops_62 : decode kY_TrustDeskModel_stops.2.1 62 = .ok (.iaload, 1) := by decide +kernel
theorem d_TrustDeskModel_stops_63 : decode kY_TrustDeskModel_stops.2.1 63 = .ok (.iastore, 1) := by decide +kernel
theorem d_TrustDeskModel_stops_64 : decode kY_TrustDeskModel_stops.2.1 64 = .ok (.iconst 0, 1) := by decide +kernel
theorem d_TrustDeskModel_stops_65 : decode kY_TrustDeskModel_stops.2.1 65 = .ok (.istore_n 2, 1) := by decide +kernel
theorem d_TrustDeskModel_stops_66 : decode kY_TrustDeskModel_stops.2.1 66 = .ok (.iload_n 2, 1) := by decide +kernel
theorem d_TrustDeskModel_stops_67 : decode kY_TrustDeskModel_stops.2.1 67 = .ok (.aload_n 0, 1) := by decide +kernel
theorem d_TrustDeskModel_stops_68 : decode kY_TrustDeskModel_stops.2.1 68 = .ok (.getfield 20, 3) := by decide +kernel
theorem d_TrustDeskModel_stops_71 : decode kY_TrustDeskModel_stops.2.1 71 = .ok (.bipush 44, 2) := by decide +kernel
theorem d_TrustDeskModel_stops_73 : decode kY_TrustDeskModel_stops.2.1 73 = .ok (.iaload, 1) := by decide +kernel
theorem d_TrustDeskModel_stops_74 : decode kY_TrustDeskModel_stops.2.1 74 = .ok (.if_icmp .ge 31, 3) := by decide +kernel
theorem d_TrustDeskModel_stops_105 : decode kY_TrustDeskModel_stops.2.1 105 = .ok (.iconst 0, 1) := by decide +kernel
theorem d_TrustDeskModel_stops_106 : decode kY_TrustDeskModel_stops.2.1 106 = .ok (.istore_n 2, 1) := by decide +kernel
theorem d_TrustDeskModel_stops_107 : decode kY_TrustDeskModel_stops.2.1 107 = .ok (.iload_n 2, 1) := by decide +kernel
theorem d_TrustDeskModel_stops_108 : decode kY_TrustDeskModel_stops.2.1 108 = .ok (.aload_n 0, 1) := by decide +kernel
theorem d_TrustDeskModel_stops_109 : decode kY_TrustDeskModel_stops.2.1 109 = .ok (.getfield 23, 3) := by decide +kernel
theorem d_TrustDeskModel_stops_112 : decode kY_TrustDeskModel_stops.2.1 112 = .ok (.bipush 44, 2) := by decide +kernel
theorem d_TrustDeskModel_stops_114 : decode kY_TrustDeskModel_stops.2.1 114 = .ok (.iaload, 1) := by decide +kernel
theorem d_TrustDeskModel_stops_115 : decode kY_TrustDeskModel_stops.2.1 115 = .ok (.if_icmp .ge 101, 3) := by decide +kernel
theorem d_TrustDeskModel_stops_216 : decode kY_TrustDeskModel_stops.2.1 216 = .ok (.iconst 0, 1) := by decide +kernel
theorem d_TrustDeskModel_stops_217 : decode kY_TrustDeskModel_stops.2.1 217 = .ok (.ireturn, 1) := by decide +kernel
theorem d_TrustDeskModel_stops_118 : decode kY_TrustDeskModel_stops.2.1 118 = .ok (.sipush 880, 3) := by decide +kernel
theorem d_TrustDeskModel_stops_121 : decode kY_TrustDeskModel_stops.2.1 121 = .ok (.iload_n 2, 1) := by decide +kernel
theorem d_TrustDeskModel_stops_122 : decode kY_TrustDeskModel_stops.2.1 122 = .ok (.iadd, 1) := by decide +kernel
theorem d_TrustDeskModel_stops_123 : decode kY_TrustDeskModel_stops.2.1 123 = .ok (.istore_n 3, 1) := by decide +kernel
theorem d_TrustDeskModel_stops_124 : decode kY_TrustDeskModel_stops.2.1 124 = .ok (.bipush 20, 2) := by decide +kernel
theorem d_TrustDeskModel_stops_126 : decode kY_TrustDeskModel_stops.2.1 126 = .ok (.iload_n 1, 1) := by decide +kernel
theorem d_TrustDeskModel_stops_127 : decode kY_TrustDeskModel_stops.2.1 127 = .ok (.imul, 1) := by decide +kernel
theorem d_TrustDeskModel_stops_128 : decode kY_TrustDeskModel_stops.2.1 128 = .ok (.iload_n 2, 1) := by decide +kernel
theorem d_TrustDeskModel_stops_129 : decode kY_TrustDeskModel_stops.2.1 129 = .ok (.iadd, 1) := by decide +kernel
theorem d_TrustDeskModel_stops_130 : decode kY_TrustDeskModel_stops.2.1 130 = .ok (.istore 4, 2) := by decide +kernel
theorem d_TrustDeskModel_stops_132 : decode kY_TrustDeskModel_stops.2.1 132 = .ok (.aload_n 0, 1) := by decide +kernel
theorem d_TrustDeskModel_stops_133 : decode kY_TrustDeskModel_stops.2.1 133 = .ok (.getfield 26, 3) := by decide +kernel
theorem d_TrustDeskModel_stops_136 : decode kY_TrustDeskModel_stops.2.1 136 = .ok (.iload 4, 2) := by decide +kernel
theorem d_TrustDeskModel_stops_138 : decode kY_TrustDeskModel_stops.2.1 138 = .ok (.aload_n 0, 1) := by decide +kernel
theorem d_TrustDeskModel_stops_139 : decode kY_TrustDeskModel_stops.2.1 139 = .ok (.getfield 26, 3) := by decide +kernel
theorem d_TrustDeskModel_stops_142 : decode kY_TrustDeskModel_stops.2.1 142 = .ok (.iload_n 3, 1) := by decide +kernel
theorem d_TrustDeskModel_stops_143 : decode kY_TrustDeskModel_stops.2.1 143 = .ok (.iaload, 1) := by decide +kernel
theorem d_TrustDeskModel_stops_144 : decode kY_TrustDeskModel_stops.2.1 144 = .ok (.iastore, 1) := by decide +kernel
theorem d_TrustDeskModel_stops_145 : decode kY_TrustDeskModel_stops.2.1 145 = .ok (.aload_n 0, 1) := by decide +kernel
theorem d_TrustDeskModel_stops_146 : decode kY_TrustDeskModel_stops.2.1 146 = .ok (.getfield 29, 3) := by decide +kernel
theorem d_TrustDeskModel_stops_149 : decode kY_TrustDeskModel_stops.2.1 149 = .ok (.iload 4, 2) := by decide +kernel
theorem d_TrustDeskModel_stops_151 : decode kY_TrustDeskModel_stops.2.1 151 = .ok (.aload_n 0, 1) := by decide +kernel
theorem d_TrustDeskModel_stops_152 : decode kY_TrustDeskModel_stops.2.1 152 = .ok (.getfield 29, 3) := by decide +kernel
theorem d_TrustDeskModel_stops_155 : decode kY_TrustDeskModel_stops.2.1 155 = .ok (.iload_n 3, 1) := by decide +kernel
theorem d_TrustDeskModel_stops_156 : decode kY_TrustDeskModel_stops.2.1 156 = .ok (.iaload, 1) := by decide +kernel
theorem d_TrustDeskModel_stops_157 : decode kY_TrustDeskModel_stops.2.1 157 = .ok (.iastore, 1) := by decide +kernel
theorem d_TrustDeskModel_stops_158 : decode kY_TrustDeskModel_stops.2.1 158 = .ok (.aload_n 0, 1) := by decide +kernel
theorem d_TrustDeskModel_stops_159 : decode kY_TrustDeskModel_stops.2.1 159 = .ok (.getfield 32, 3) := by decide +kernel
theorem d_TrustDeskModel_stops_162 : decode kY_TrustDeskModel_stops.2.1 162 = .ok (.iload 4, 2) := by decide +kernel
theorem d_TrustDeskModel_stops_164 : decode kY_TrustDeskModel_stops.2.1 164 = .ok (.aload_n 0, 1) := by decide +kernel
theorem d_TrustDeskModel_stops_165 : decode kY_TrustDeskModel_stops.2.1 165 = .ok (.getfield 32, 3) := by decide +kernel
theorem d_TrustDeskModel_stops_168 : decode kY_TrustDeskModel_stops.2.1 168 = .ok (.iload_n 3, 1) := by decide +kernel
theorem d_TrustDeskModel_stops_169 : decode kY_TrustDeskModel_stops.2.1 169 = .ok (.iaload, 1) := by decide +kernel
theorem d_TrustDeskModel_stops_170 : decode kY_TrustDeskModel_stops.2.1 170 = .ok (.iastore, 1) := by decide +kernel
theorem d_TrustDeskModel_stops_171 : decode kY_TrustDeskModel_stops.2.1 171 = .ok (.aload_n 0, 1) := by decide +kernel
theorem d_TrustDeskModel_stops_172 : decode kY_TrustDeskModel_stops.2.1 172 = .ok (.getfield 35, 3) := by decide +kernel
theorem d_TrustDeskModel_stops_175 : decode kY_TrustDeskModel_stops.2.1 175 = .ok (.iload 4, 2) := by decide +kernel
theorem d_TrustDeskModel_stops_177 : decode kY_TrustDeskModel_stops.2.1 177 = .ok (.aload_n 0, 1) := by decide +kernel
theorem d_TrustDeskModel_stops_178 : decode kY_TrustDeskModel_stops.2.1 178 = .ok (.getfield 35, 3) := by decide +kernel
theorem d_TrustDeskModel_stops_181 : decode kY_TrustDeskModel_stops.2.1 181 = .ok (.iload_n 3, 1) := by decide +kernel
theorem d_TrustDeskModel_stops_182 : decode kY_TrustDeskModel_stops.2.1 182 = .ok (.iaload, 1) := by decide +kernel
theorem d_TrustDeskModel_stops_183 : decode kY_TrustDeskModel_stops.2.1 183 = .ok (.iastore, 1) := by decide +kernel
theorem d_TrustDeskModel_stops_184 : decode kY_TrustDeskModel_stops.2.1 184 = .ok (.aload_n 0, 1) := by decide +kernel
theorem d_TrustDeskModel_stops_185 : decode kY_TrustDeskModel_stops.2.1 185 = .ok (.getfield 38, 3) := by decide +kernel
theorem d_TrustDeskModel_stops_188 : decode kY_TrustDeskModel_stops.2.1 188 = .ok (.iload 4, 2) := by decide +kernel
theorem d_TrustDeskModel_stops_190 : decode kY_TrustDeskModel_stops.2.1 190 = .ok (.aload_n 0, 1) := by decide +kernel
theorem d_TrustDeskModel_stops_191 : decode kY_TrustDeskModel_stops.2.1 191 = .ok (.getfield 38, 3) := by decide +kernel
theorem d_TrustDeskModel_stops_194 : decode kY_TrustDeskModel_stops.2.1 194 = .ok (.iload_n 3, 1) := by decide +kernel
theorem d_TrustDeskModel_stops_195 : decode kY_TrustDeskModel_stops.2.1 195 = .ok (.iaload, 1) := by decide +kernel
theorem d_TrustDeskModel_stops_196 : decode kY_TrustDeskModel_stops.2.1 196 = .ok (.iastore, 1) := by decide +kernel
theorem d_TrustDeskModel_stops_197 : decode kY_TrustDeskModel_stops.2.1 197 = .ok (.aload_n 0, 1) := by decide +kernel
theorem d_TrustDeskModel_stops_198 : decode kY_TrustDeskModel_stops.2.1 198 = .ok (.getfield 41, 3) := by decide +kernel
theorem d_TrustDeskModel_stops_201 : decode kY_TrustDeskModel_stops.2.1 201 = .ok (.iload 4, 2) := by decide +kernel
theorem d_TrustDeskModel_stops_203 : decode kY_TrustDeskModel_stops.2.1 203 = .ok (.aload_n 0, 1) := by decide +kernel
theorem d_TrustDeskModel_stops_204 : decode kY_TrustDeskModel_stops.2.1 204 = .ok (.getfield 41, 3) := by decide +kernel
theorem d_TrustDeskModel_stops_207 : decode kY_TrustDeskModel_stops.2.1 207 = .ok (.iload_n 3, 1) := by decide +kernel
theorem d_TrustDeskModel_stops_208 : decode kY_TrustDeskModel_stops.2.1 208 = .ok (.iaload, 1) := by decide +kernel
theorem d_TrustDeskModel_stops_209 : decode kY_TrustDeskModel_stops.2.1 209 = .ok (.iastore, 1) := by decide +kernel
theorem d_TrustDeskModel_stops_210 : decode kY_TrustDeskModel_stops.2.1 210 = .ok (.iinc 2 1, 3) := by decide +kernel
theorem d_TrustDeskModel_stops_213 : decode kY_TrustDeskModel_stops.2.1 213 = .ok (.goto (-106), 3) := by decide +kernel
theorem d_TrustDeskModel_stops_77 : decode kY_TrustDeskModel_stops.2.1 77 = .ok (.aload_n 0, 1) := by decide +kernel
theorem d_TrustDeskModel_stops_78 : decode kY_TrustDeskModel_stops.2.1 78 = .ok (.getfield 17, 3) := by decide +kernel
theorem d_TrustDeskModel_stops_81 : decode kY_TrustDeskModel_stops.2.1 81 = .ok (.sipush 420, 3) := by decide +kernel
theorem d_TrustDeskModel_stops_84 : decode kY_TrustDeskModel_stops.2.1 84 = .ok (.iload_n 1, 1) := by decide +kernel
theorem d_TrustDeskModel_stops_85 : decode kY_TrustDeskModel_stops.2.1 85 = .ok (.imul, 1) := by decide +kernel
theorem d_TrustDeskModel_stops_86 : decode kY_TrustDeskModel_stops.2.1 86 = .ok (.iload_n 2, 1) := by decide +kernel
theorem d_TrustDeskModel_stops_87 : decode kY_TrustDeskModel_stops.2.1 87 = .ok (.iadd, 1) := by decide +kernel
theorem d_TrustDeskModel_stops_88 : decode kY_TrustDeskModel_stops.2.1 88 = .ok (.aload_n 0, 1) := by decide +kernel
theorem d_TrustDeskModel_stops_89 : decode kY_TrustDeskModel_stops.2.1 89 = .ok (.getfield 17, 3) := by decide +kernel
theorem d_TrustDeskModel_stops_92 : decode kY_TrustDeskModel_stops.2.1 92 = .ok (.sipush 18480, 3) := by decide +kernel
theorem d_TrustDeskModel_stops_95 : decode kY_TrustDeskModel_stops.2.1 95 = .ok (.iload_n 2, 1) := by decide +kernel
theorem d_TrustDeskModel_stops_96 : decode kY_TrustDeskModel_stops.2.1 96 = .ok (.iadd, 1) := by decide +kernel
theorem d_TrustDeskModel_stops_97 : decode kY_TrustDeskModel_stops.2.1 97 = .ok (.iaload, 1) := by decide +kernel
theorem d_TrustDeskModel_stops_98 : decode kY_TrustDeskModel_stops.2.1 98 = .ok (.iastore, 1) := by decide +kernel
theorem d_TrustDeskModel_stops_99 : decode kY_TrustDeskModel_stops.2.1 99 = .ok (.iinc 2 1, 3) := by decide +kernel
theorem d_TrustDeskModel_stops_102 : decode kY_TrustDeskModel_stops.2.1 102 = .ok (.goto (-36), 3) := by decide +kernel
def w_TrustDeskModel_stops_x : List Nat := [1314, 1321, 20004, 20005, 20006, 20007, 20008, 20009, 20010, 20011, 20012]
set_option maxHeartbeats 100000000 in theorem tc_TrustDeskModel_stops_x {g : mj_G} {l : Launch} {d : Nat} {T0 : tm_H} {M0 : mj_M} {n0 x9 : Nat} {o0 : Nat} {x1 : Int32} (h_o0 : T0 o0 = some (0, 13, 0)) (yR : rI M0 o0) (yx : 0 ≤ x1.toInt ∧ x1.toInt ≤ 43) {pb : Nat → Int} {pn : Nat} {pa : Int} {ps : p_S} (yO : pO M0 o0 pb pn pa ps) (I0 : tm_I tm_FT (tm_in w_TrustDeskModel_stops_x) x9 T0 M0 n0 T0 M0 n0) : mj_Met g l kY_TrustDeskModel_stops (d + 1) [.ref o0, .int x1] M0 n0 0 0 (tm_Q tm_FT (tm_in w_TrustDeskModel_stops_x) x9 T0 M0 n0 (fun r _ M => ∃ v : Int32, r = some (.int v) ∧ rI M o0 ∧ (rv M0 o0 19 ≠ 0 → v.toInt < 0 ∧ sA [4, 7, 8, 10, 11, 12] M0 M o0) ∧ (rv M0 o0 19 = 0 → v.toInt = 0 ∧ rcp M0 M o0 4 18480 (420 * x1.toNatClampNeg) (ra M0 o0 5 44) ∧ rcp M0 M o0 7 880 (20 * x1.toNatClampNeg) (ra M0 o0 6 44) ∧ rcp M0 M o0 8 880 (20 * x1.toNatClampNeg) (ra M0 o0 6 44) ∧ rcp M0 M o0 10 880 (20 * x1.toNatClampNeg) (ra M0 o0 6 44) ∧ rcp M0 M o0 11 880 (20 * x1.toNatClampNeg) (ra M0 o0 6 44) ∧ rcp M0 M o0 12 880 (20 * x1.toNatClampNeg) (ra M0 o0 6 44) ∧ ra M o0 6 x1.toNatClampNeg = ra M0 o0 6 44) ∧ (rv M o0 14 = 0) ∧ (ps.1 = 0 → rv M o0 21 = -1 ∧ v.toInt = 0) ∧ (ps.1 ≠ 0 → rv M o0 21 = (ps.2.1 : Int) ∧ v.toInt = -1 - ps.1))) := by
  refine mj_enter (by decide) (Nat.le_of_ble_eq_true rfl) ?_
  have K1 : rcp M0 M0 o0 4 18480 (420 * x1.toNatClampNeg) 0 := rcp.rf
  have K2 : rcp M0 M0 o0 7 880 (20 * x1.toNatClampNeg) 0 := rcp.rf
  have K3 : rcp M0 M0 o0 8 880 (20 * x1.toNatClampNeg) 0 := rcp.rf
  have K4 : rcp M0 M0 o0 10 880 (20 * x1.toNatClampNeg) 0 := rcp.rf
  have K5 : rcp M0 M0 o0 11 880 (20 * x1.toNatClampNeg) 0 := rcp.rf
  have K6 : rcp M0 M0 o0 12 880 (20 * x1.toNatClampNeg) 0 := rcp.rf
  have K7 : sA [4, 7, 8, 10, 11, 12] M0 M0 o0 := sA.rf
  have := yR.2 5 _ _ rfl 44
  have := yR.2 6 _ _ rfl 44
  have yW := Im.i yO.w
  have yF := Im.i yO.2.2.1
  refine mv_aload_n d_TrustDeskModel_stops_0 rfl rfl ?_
  refine mv_iconst (v := 0) d_TrustDeskModel_stops_1 (by decide) ?_
  refine tr_putR (k := 14) I0 yR h_o0 rfl ⟨_, rfl⟩ (fun _ h => by cases h) rfl (fun lo hi h => by cases h; have e9 : (0 : Int32).toInt = 0 := (by decide); exact ⟨by show (0 : Int) ≤ (0 : Int32).toInt; omega, by show (0 : Int32).toInt ≤ (400 : Int); omega⟩) (Or.inl (by decide)) d_TrustDeskModel_stops_2 p_TrustDeskModel_189_13 rfl rfl (fun M8 I9 q10 K11 R12 A13 V14 => ?_)
  have z15 := (V14 19 (by decide))
  have z16 := (V14 20 (by decide))
  have z17 := (V14 21 (by decide))
  have z18 := (A13 5 (by decide) 44)
  have z19 := (A13 6 (by decide) 44)
  have z20 : rv M8 o0 14 = 0 := tm_rv q10
  have K21 : rcp M0 M8 o0 4 18480 (420 * x1.toNatClampNeg) 0 := K1.same (((sA_f A13 (by decide)) : sA [4] _ _ _) 4 rfl)
  have K22 : rcp M0 M8 o0 7 880 (20 * x1.toNatClampNeg) 0 := K2.same (((sA_f A13 (by decide)) : sA [7] _ _ _) 7 rfl)
  have K23 : rcp M0 M8 o0 8 880 (20 * x1.toNatClampNeg) 0 := K3.same (((sA_f A13 (by decide)) : sA [8] _ _ _) 8 rfl)
  have K24 : rcp M0 M8 o0 10 880 (20 * x1.toNatClampNeg) 0 := K4.same (((sA_f A13 (by decide)) : sA [10] _ _ _) 10 rfl)
  have K25 : rcp M0 M8 o0 11 880 (20 * x1.toNatClampNeg) 0 := K5.same (((sA_f A13 (by decide)) : sA [11] _ _ _) 11 rfl)
  have K26 : rcp M0 M8 o0 12 880 (20 * x1.toNatClampNeg) 0 := K6.same (((sA_f A13 (by decide)) : sA [12] _ _ _) 12 rfl)
  have K27 : sA [4, 7, 8, 10, 11, 12] M0 M8 o0 := K7.trans (sA_f A13 (by decide))
  refine mv_aload_n d_TrustDeskModel_stops_5 rfl rfl ?_
  refine mv_aload_n d_TrustDeskModel_stops_6 rfl rfl ?_
  obtain ⟨_, b28, -⟩ := I9.1 _ _ h_o0
  refine mv_callV (kc1 := 0) (ks1 := 0) (kc' := 0) (ks' := 0) (As := []) (st9 := [.ref o0, .ref o0]) d_TrustDeskModel_stops_7 lV_TrustDeskModel_230 b28 rfl (mj_enter (by decide) (Nat.le_of_ble_eq_true rfl) ?_) rfl (Nat.le_of_ble_eq_true rfl) (Nat.le_of_ble_eq_true rfl) (Nat.le_of_ble_eq_true rfl) (hst := rfl) (fun _ _ _ h => h)
  refine mv_aload_n d_TrustDeskModel_isWell_0 rfl rfl ?_
  obtain ⟨v30, q29⟩ := tm_atI I9 h_o0 (k := 19) rfl
  refine tr_getK q29 d_TrustDeskModel_isWell_1 f_TrustDeskModel_224_13 ?_
  have := R12.f (k := 19) q29 rfl
  have := (tm_rv q29).symm.trans z15
  have := tm_rv q29
  have := mz_hi v30
  refine mv_if_neZ (tgt := 11) (a := v30.toInt) d_TrustDeskModel_isWell_4 (by decide) rfl (fun b31 => ?_) (fun b31 => ?_)
  · refine mv_iconst (v := 0) d_TrustDeskModel_isWell_11 (by decide) ?_
    refine mv_iret d_TrustDeskModel_isWell_12 rfl (by decide) ?_
    refine mv_if_eq_t (tgt := 17) d_TrustDeskModel_stops_10 (by decide) (by decide) ?_
    refine mv_aload_n d_TrustDeskModel_stops_17 rfl rfl ?_
    obtain ⟨v33, q32⟩ := tm_atI I9 h_o0 (k := 20) rfl
    refine tr_getK q32 d_TrustDeskModel_stops_18 f_TrustDeskModel_227_13 ?_
    have := (tm_rv q32).symm.trans z16
    have := tm_rv q32
    refine tr_putR (k := 21) I9 R12 h_o0 rfl ⟨_, rfl⟩ (fun _ h => by cases h) rfl (fun lo hi h => by cases h) (Or.inl (by decide)) d_TrustDeskModel_stops_21 p_TrustDeskModel_48_13 rfl rfl (fun M34 I35 q36 K37 R38 A39 V40 => ?_)
    have z41 := (V40 14 (by decide)).trans z20
    have z42 := (V40 19 (by decide)).trans z15
    have z43 := (V40 20 (by decide)).trans z16
    have z44 := (A39 5 (by decide) 44).trans z18
    have z45 := (A39 6 (by decide) 44).trans z19
    have z46 : rv M34 o0 21 = v33.toInt := tm_rv q36
    have K47 : rcp M0 M34 o0 4 18480 (420 * x1.toNatClampNeg) 0 := K21.same (((sA_f A39 (by decide)) : sA [4] _ _ _) 4 rfl)
    have K48 : rcp M0 M34 o0 7 880 (20 * x1.toNatClampNeg) 0 := K22.same (((sA_f A39 (by decide)) : sA [7] _ _ _) 7 rfl)
    have K49 : rcp M0 M34 o0 8 880 (20 * x1.toNatClampNeg) 0 := K23.same (((sA_f A39 (by decide)) : sA [8] _ _ _) 8 rfl)
    have K50 : rcp M0 M34 o0 10 880 (20 * x1.toNatClampNeg) 0 := K24.same (((sA_f A39 (by decide)) : sA [10] _ _ _) 10 rfl)
    have K51 : rcp M0 M34 o0 11 880 (20 * x1.toNatClampNeg) 0 := K25.same (((sA_f A39 (by decide)) : sA [11] _ _ _) 11 rfl)
    have K52 : rcp M0 M34 o0 12 880 (20 * x1.toNatClampNeg) 0 := K26.same (((sA_f A39 (by decide)) : sA [12] _ _ _) 12 rfl)
    have K53 : sA [4, 7, 8, 10, 11, 12] M0 M34 o0 := K27.trans (sA_f A39 (by decide))
    clear z20 z16 z18 z19
    refine mv_aload_n d_TrustDeskModel_stops_24 rfl rfl ?_
    obtain ⟨_, b54, -⟩ := I35.1 _ _ h_o0
    refine mv_callV (kc1 := 0) (ks1 := 0) (kc' := 0) (ks' := 0) (As := []) (st9 := [.ref o0]) d_TrustDeskModel_stops_25 lV_TrustDeskModel_230 b54 rfl (mj_enter (by decide) (Nat.le_of_ble_eq_true rfl) ?_) rfl (Nat.le_of_ble_eq_true rfl) (Nat.le_of_ble_eq_true rfl) (Nat.le_of_ble_eq_true rfl) (hst := rfl) (fun _ _ _ h => h)
    refine mv_aload_n d_TrustDeskModel_isWell_0 rfl rfl ?_
    refine tr_getK (k := 19) (K37 _ 13 19 _ rfl q29) d_TrustDeskModel_isWell_1 f_TrustDeskModel_224_13 ?_
    have := mz_hi v30
    refine mv_if_neZ (tgt := 11) (a := v30.toInt) d_TrustDeskModel_isWell_4 (by decide) rfl (fun b55 => ?_) (fun b55 => absurd b55 (by omega))
    refine mv_iconst (v := 0) d_TrustDeskModel_isWell_11 (by decide) ?_
    refine mv_iret d_TrustDeskModel_isWell_12 rfl (by decide) ?_
    refine mv_if_ne_f (tgt := 38) d_TrustDeskModel_stops_28 (by decide) (by decide) ?_
    refine mv_iconst (v := (-1)) d_TrustDeskModel_stops_31 (by decide) ?_
    refine mv_aload_n d_TrustDeskModel_stops_32 rfl rfl ?_
    refine tr_getK (k := 19) (K37 _ 13 19 _ rfl q29) d_TrustDeskModel_stops_33 f_TrustDeskModel_224_13 ?_
    refine mv_isub d_TrustDeskModel_stops_36 ?_
    have b56 : ((-1) - v30 : Int32).toInt = ((-1) - v30.toInt) := mz_sub2 (by decide) rfl (by omega) (by omega)
    generalize ((-1) - v30 : Int32) = w9b56 at b56 ⊢
    exact mv_iret d_TrustDeskModel_stops_37 rfl (by first | rfl | decide) ⟨_, I35, _, rfl, R38, (fun _ => ⟨(by omega), K53⟩), (fun h9 => by exfalso; omega), (by omega), ((fun (h8 : rv M0 o0 19 ≠ 0) (z9 : ps.1 = 0) => absurd ((Im.o yW).trans z9) h8) (by omega)), ((fun (h8 : rv M34 o0 21 = rv M0 o0 20) (h7 : _ = -1 - rv M0 o0 19) (z9 : ps.1 ≠ 0) => ⟨h8.trans (Im.o yF z9), h7.trans (congrArg (fun q => -1 - q) (Im.o yW))⟩) (by omega) (by omega))⟩
  · refine mv_iconst (v := 1) d_TrustDeskModel_isWell_7 (by decide) ?_
    refine mv_goto (tgt := 12) d_TrustDeskModel_isWell_8 (by decide) ?_
    refine mv_iret d_TrustDeskModel_isWell_12 rfl (by decide) ?_
    refine mv_if_eq_f (tgt := 17) d_TrustDeskModel_stops_10 (by decide) (by decide) ?_
    refine mv_iconst (v := (-1)) d_TrustDeskModel_stops_13 (by decide) ?_
    refine mv_goto (tgt := 21) d_TrustDeskModel_stops_14 (by decide) ?_
    refine tr_putR (k := 21) I9 R12 h_o0 rfl ⟨_, rfl⟩ (fun _ h => by cases h) rfl (fun lo hi h => by cases h) (Or.inl (by decide)) d_TrustDeskModel_stops_21 p_TrustDeskModel_48_13 rfl rfl (fun M57 I58 q59 K60 R61 A62 V63 => ?_)
    have z64 := (V63 14 (by decide)).trans z20
    have z65 := (V63 19 (by decide)).trans z15
    have z66 := (V63 20 (by decide)).trans z16
    have z67 := (A62 5 (by decide) 44).trans z18
    have z68 := (A62 6 (by decide) 44).trans z19
    have z69 : rv M57 o0 21 = (-1) := tm_rv q59
    have K70 : rcp M0 M57 o0 4 18480 (420 * x1.toNatClampNeg) 0 := K21.same (((sA_f A62 (by decide)) : sA [4] _ _ _) 4 rfl)
    have K71 : rcp M0 M57 o0 7 880 (20 * x1.toNatClampNeg) 0 := K22.same (((sA_f A62 (by decide)) : sA [7] _ _ _) 7 rfl)
    have K72 : rcp M0 M57 o0 8 880 (20 * x1.toNatClampNeg) 0 := K23.same (((sA_f A62 (by decide)) : sA [8] _ _ _) 8 rfl)
    have K73 : rcp M0 M57 o0 10 880 (20 * x1.toNatClampNeg) 0 := K24.same (((sA_f A62 (by decide)) : sA [10] _ _ _) 10 rfl)
    have K74 : rcp M0 M57 o0 11 880 (20 * x1.toNatClampNeg) 0 := K25.same (((sA_f A62 (by decide)) : sA [11] _ _ _) 11 rfl)
    have K75 : rcp M0 M57 o0 12 880 (20 * x1.toNatClampNeg) 0 := K26.same (((sA_f A62 (by decide)) : sA [12] _ _ _) 12 rfl)
    have K76 : sA [4, 7, 8, 10, 11, 12] M0 M57 o0 := K27.trans (sA_f A62 (by decide))
    clear z20 z16 z18 z19
    refine mv_aload_n d_TrustDeskModel_stops_24 rfl rfl ?_
    obtain ⟨_, b77, -⟩ := I58.1 _ _ h_o0
    refine mv_callV (kc1 := 0) (ks1 := 0) (kc' := 0) (ks' := 0) (As := []) (st9 := [.ref o0]) d_TrustDeskModel_stops_25 lV_TrustDeskModel_230 b77 rfl (mj_enter (by decide) (Nat.le_of_ble_eq_true rfl) ?_) rfl (Nat.le_of_ble_eq_true rfl) (Nat.le_of_ble_eq_true rfl) (Nat.le_of_ble_eq_true rfl) (hst := rfl) (fun _ _ _ h => h)
    refine mv_aload_n d_TrustDeskModel_isWell_0 rfl rfl ?_
    refine tr_getK (k := 19) (K60 _ 13 19 _ rfl q29) d_TrustDeskModel_isWell_1 f_TrustDeskModel_224_13 ?_
    have := mz_hi v30
    refine mv_if_neZ (tgt := 11) (a := v30.toInt) d_TrustDeskModel_isWell_4 (by decide) rfl (fun b78 => absurd b78 (by omega)) (fun b78 => ?_)
    refine mv_iconst (v := 1) d_TrustDeskModel_isWell_7 (by decide) ?_
    refine mv_goto (tgt := 12) d_TrustDeskModel_isWell_8 (by decide) ?_
    refine mv_iret d_TrustDeskModel_isWell_12 rfl (by decide) ?_
    refine mv_if_ne_t (tgt := 38) d_TrustDeskModel_stops_28 (by decide) (by decide) ?_
    refine mv_aload_n d_TrustDeskModel_stops_38 rfl rfl ?_
    obtain ⟨a80, q79, t_a80⟩ := tm_atR I58 h_o0 (k := 5) rfl
    refine tr_getK q79 d_TrustDeskModel_stops_39 f_TrustDeskModel_20_13 ?_
    refine mv_iload_n d_TrustDeskModel_stops_42 rfl rfl ?_
    refine mv_aload_n d_TrustDeskModel_stops_43 rfl rfl ?_
    refine tr_getK (k := 5) q79 d_TrustDeskModel_stops_44 f_TrustDeskModel_20_13 ?_
    refine mv_bipush (v := 44) d_TrustDeskModel_stops_47 (by decide) ?_
    refine tr_ialdR (o := o0) (k := 5) I58 q79 t_a80 (by decide) d_TrustDeskModel_stops_49 (by unfold vp_in; decide) (fun v81 e82 => ?_)
    have := R61.a (k := 5) rfl (44 : Int32).toNatClampNeg
    have : v81.toInt = ra M57 o0 5 44 := e82
    have : v81.toInt = _ := Eq.trans e82 z67
    refine tr_iastR (k := 5) I58 R61 (I58.up h_o0) q79 t_a80 (by decide) (by decide) (fun lo hi h => by cases h; exact ⟨by show (0 : Int) ≤ v81.toInt; omega, by show v81.toInt ≤ (400 : Int); omega⟩) (Or.inl (by decide)) d_TrustDeskModel_stops_50 (vp_in_iff.mpr (by omega)) (fun M83 I84 K85 R86 E87 A88 V89 => ?_)
    have z90 := (V89 14).trans z64
    have z91 := (V89 19).trans z65
    have z92 := (V89 20).trans z66
    have z93 := (V89 21).trans z69
    have z94 := ((E87 44).trans (if_neg (by have := mz_nat9 (i := x1) (by omega); omega))).trans z67
    have z95 := (A88 6 (by decide) rfl 44).trans z68
    have K96 : rcp M0 M83 o0 4 18480 (420 * x1.toNatClampNeg) 0 := K70.same (((sA_a A88 (by decide +kernel)) : sA [4] _ _ _) 4 rfl)
    have K97 : rcp M0 M83 o0 7 880 (20 * x1.toNatClampNeg) 0 := K71.same (((sA_a A88 (by decide +kernel)) : sA [7] _ _ _) 7 rfl)
    have K98 : rcp M0 M83 o0 8 880 (20 * x1.toNatClampNeg) 0 := K72.same (((sA_a A88 (by decide +kernel)) : sA [8] _ _ _) 8 rfl)
    have K99 : rcp M0 M83 o0 10 880 (20 * x1.toNatClampNeg) 0 := K73.same (((sA_a A88 (by decide +kernel)) : sA [10] _ _ _) 10 rfl)
    have K100 : rcp M0 M83 o0 11 880 (20 * x1.toNatClampNeg) 0 := K74.same (((sA_a A88 (by decide +kernel)) : sA [11] _ _ _) 11 rfl)
    have K101 : rcp M0 M83 o0 12 880 (20 * x1.toNatClampNeg) 0 := K75.same (((sA_a A88 (by decide +kernel)) : sA [12] _ _ _) 12 rfl)
    have K102 : sA [4, 7, 8, 10, 11, 12] M0 M83 o0 := K76.trans (sA_a A88 (by decide +kernel))
    clear z64 z66 z69 z67 z68
    refine mv_aload_n d_TrustDeskModel_stops_51 rfl rfl ?_
    obtain ⟨a104, q103, t_a104⟩ := tm_atR I84 h_o0 (k := 6) rfl
    refine tr_getK q103 d_TrustDeskModel_stops_52 f_TrustDeskModel_23_13 ?_
    refine mv_iload_n d_TrustDeskModel_stops_55 rfl rfl ?_
    refine mv_aload_n d_TrustDeskModel_stops_56 rfl rfl ?_
    refine tr_getK (k := 6) q103 d_TrustDeskModel_stops_57 f_TrustDeskModel_23_13 ?_
    refine mv_bipush (v := 44) d_TrustDeskModel_stops_60 (by decide) ?_
    refine tr_ialdR (o := o0) (k := 6) I84 q103 t_a104 (by decide) d_TrustDeskModel_stops_62 (by unfold vp_in; decide) (fun v105 e106 => ?_)
    have := R86.a (k := 6) rfl (44 : Int32).toNatClampNeg
    have : v105.toInt = ra M83 o0 6 44 := e106
    have : v105.toInt = _ := Eq.trans e106 z95
    refine tr_iastR (k := 6) I84 R86 (I84.up h_o0) q103 t_a104 (by decide) (by decide) (fun lo hi h => by cases h; exact ⟨by show (0 : Int) ≤ v105.toInt; omega, by show v105.toInt ≤ (20 : Int); omega⟩) (Or.inl (by decide)) d_TrustDeskModel_stops_63 (vp_in_iff.mpr (by omega)) (fun M107 I108 K109 R110 E111 A112 V113 => ?_)
    have z114 := (V113 14).trans z90
    have z115 := (V113 19).trans z91
    have z116 := (V113 20).trans z92
    have z117 := (V113 21).trans z93
    have z118 := (A112 5 (by decide) rfl 44).trans z94
    have z119 := ((E111 44).trans (if_neg (by have := mz_nat9 (i := x1) (by omega); omega))).trans z95
    have h120 : x1.toNatClampNeg = x1.toNatClampNeg := rfl
    have z121 : ra M107 o0 6 x1.toNatClampNeg = v105.toInt := (E111 _).trans (if_pos h120)
    have K122 : rcp M0 M107 o0 4 18480 (420 * x1.toNatClampNeg) 0 := K96.same (((sA_a A112 (by decide +kernel)) : sA [4] _ _ _) 4 rfl)
    have K123 : rcp M0 M107 o0 7 880 (20 * x1.toNatClampNeg) 0 := K97.same (((sA_a A112 (by decide +kernel)) : sA [7] _ _ _) 7 rfl)
    have K124 : rcp M0 M107 o0 8 880 (20 * x1.toNatClampNeg) 0 := K98.same (((sA_a A112 (by decide +kernel)) : sA [8] _ _ _) 8 rfl)
    have K125 : rcp M0 M107 o0 10 880 (20 * x1.toNatClampNeg) 0 := K99.same (((sA_a A112 (by decide +kernel)) : sA [10] _ _ _) 10 rfl)
    have K126 : rcp M0 M107 o0 11 880 (20 * x1.toNatClampNeg) 0 := K100.same (((sA_a A112 (by decide +kernel)) : sA [11] _ _ _) 11 rfl)
    have K127 : rcp M0 M107 o0 12 880 (20 * x1.toNatClampNeg) 0 := K101.same (((sA_a A112 (by decide +kernel)) : sA [12] _ _ _) 12 rfl)
    have K128 : sA [4, 7, 8, 10, 11, 12] M0 M107 o0 := K102.trans (sA_a A112 (by decide +kernel))
    clear z90 z92 z93 z94 z95
    refine mv_iconst (v := 0) d_TrustDeskModel_stops_64 (by decide) ?_
    refine mv_istore_n (lv' := [(2, .int 0), (0, .ref o0), (1, .int x1)]) d_TrustDeskModel_stops_65 rfl (by decide) rfl ?_
    have L66_129 : ∀ (k : Nat) (i2_129 : Int32) (T_129 : tm_H) (M_129 : mj_M) (n_129 : Nat), tm_I tm_FT (tm_in w_TrustDeskModel_stops_x) x9 T0 M0 n0 T_129 M_129 n_129 → T_129 o0 = some (0, 13, 0) → 0 ≤ i2_129.toInt → rv M_129 o0 19 = rv M0 o0 19 → ra M_129 o0 5 44 = ra M0 o0 5 44 → ra M_129 o0 6 44 = ra M0 o0 6 44 → ra M_129 o0 6 x1.toNatClampNeg = ra M0 o0 6 44 → i2_129.toInt ≤ ra M0 o0 5 44 → rv M_129 o0 14 = 0 → rv M_129 o0 21 = -1 → (rI M_129 o0) → (rcp M0 M_129 o0 4 18480 (420 * x1.toNatClampNeg) i2_129.toInt) → (rcp M0 M_129 o0 7 880 (20 * x1.toNatClampNeg) 0) → (rcp M0 M_129 o0 8 880 (20 * x1.toNatClampNeg) 0) → (rcp M0 M_129 o0 10 880 (20 * x1.toNatClampNeg) 0) → (rcp M0 M_129 o0 11 880 (20 * x1.toNatClampNeg) 0) → (rcp M0 M_129 o0 12 880 (20 * x1.toNatClampNeg) 0) → 2147483647 - i2_129.toInt < (k : Int) → mj_V g l kY_TrustDeskModel_stops (d + 1) 66 [(2, .int i2_129), (0, .ref o0), (1, .int x1)] [] M_129 n_129 0 0 (tm_Q tm_FT (tm_in w_TrustDeskModel_stops_x) x9 T0 M0 n0 (fun r _ M => ∃ v : Int32, r = some (.int v) ∧ rI M o0 ∧ (rv M0 o0 19 ≠ 0 → v.toInt < 0 ∧ sA [4, 7, 8, 10, 11, 12] M0 M o0) ∧ (rv M0 o0 19 = 0 → v.toInt = 0 ∧ rcp M0 M o0 4 18480 (420 * x1.toNatClampNeg) (ra M0 o0 5 44) ∧ rcp M0 M o0 7 880 (20 * x1.toNatClampNeg) (ra M0 o0 6 44) ∧ rcp M0 M o0 8 880 (20 * x1.toNatClampNeg) (ra M0 o0 6 44) ∧ rcp M0 M o0 10 880 (20 * x1.toNatClampNeg) (ra M0 o0 6 44) ∧ rcp M0 M o0 11 880 (20 * x1.toNatClampNeg) (ra M0 o0 6 44) ∧ rcp M0 M o0 12 880 (20 * x1.toNatClampNeg) (ra M0 o0 6 44) ∧ ra M o0 6 x1.toNatClampNeg = ra M0 o0 6 44) ∧ (rv M o0 14 = 0) ∧ (ps.1 = 0 → rv M o0 21 = -1 ∧ v.toInt = 0) ∧ (ps.1 ≠ 0 → rv M o0 21 = (ps.2.1 : Int) ∧ v.toInt = -1 - ps.1))) := by
      intro k129
      induction k129 with
      | zero =>
        intro i2_129 T_129 M_129 n_129 I_129 h_q0_129 iv0_129 iv1_129 iv2_129 iv3_129 iv4_129 iv5_129 iv6_129 iv7_129 kKR_129 kKQ4_129 kKQ7_129 kKQ8_129 kKQ10_129 kKQ11_129 kKQ12_129 hk129
        have := mz_hi i2_129
        have := kKR_129.1 15 _ _ rfl
        have := kKR_129.1 16 _ _ rfl
        have := kKR_129.1 19 _ _ rfl
        omega
      | succ k129 ih129 =>
        intro i2_129 T_129 M_129 n_129 I_129 h_q0_129 iv0_129 iv1_129 iv2_129 iv3_129 iv4_129 iv5_129 iv6_129 iv7_129 kKR_129 kKQ4_129 kKQ7_129 kKQ8_129 kKQ10_129 kKQ11_129 kKQ12_129 hk129
        refine mv_iload_n d_TrustDeskModel_stops_66 rfl rfl ?_
        refine mv_aload_n d_TrustDeskModel_stops_67 rfl rfl ?_
        obtain ⟨a131, q130, t_a131⟩ := tm_atR I_129 h_q0_129 (k := 5) rfl
        refine tr_getK q130 d_TrustDeskModel_stops_68 f_TrustDeskModel_20_13 ?_
        refine mv_bipush (v := 44) d_TrustDeskModel_stops_71 (by decide) ?_
        refine tr_ialdR (o := o0) (k := 5) I_129 q130 t_a131 (by decide) d_TrustDeskModel_stops_73 (by unfold vp_in; decide) (fun v132 e133 => ?_)
        have := kKR_129.a (k := 5) rfl (44 : Int32).toNatClampNeg
        have : v132.toInt = ra M_129 o0 5 44 := e133
        have := mz_hi i2_129
        have := mz_hi v132
        refine mv_icmp_geZ (tgt := 105) (a := i2_129.toInt) (b := v132.toInt) d_TrustDeskModel_stops_74 (by decide) rfl rfl (fun b134 => ?_) (fun b134 => ?_)
        · refine mv_iconst (v := 0) d_TrustDeskModel_stops_105 (by decide) ?_
          refine mv_istore_n (lv' := [(2, .int 0), (0, .ref o0), (1, .int x1)]) d_TrustDeskModel_stops_106 rfl (by decide) rfl ?_
          have L107_135 : ∀ (k : Nat) (i2_135 : Int32) (T_135 : tm_H) (M_135 : mj_M) (n_135 : Nat), tm_I tm_FT (tm_in w_TrustDeskModel_stops_x) x9 T0 M0 n0 T_135 M_135 n_135 → T_135 o0 = some (0, 13, 0) → 0 ≤ i2_135.toInt → rv M_135 o0 19 = rv M0 o0 19 → ra M_135 o0 5 44 = ra M0 o0 5 44 → ra M_135 o0 6 44 = ra M0 o0 6 44 → ra M_135 o0 6 x1.toNatClampNeg = ra M0 o0 6 44 → i2_135.toInt ≤ ra M0 o0 6 44 → rv M_135 o0 14 = 0 → rv M_135 o0 21 = -1 → (rI M_135 o0) → (rcp M0 M_135 o0 4 18480 (420 * x1.toNatClampNeg) i2_129.toInt) → (rcp M0 M_135 o0 7 880 (20 * x1.toNatClampNeg) i2_135.toInt) → (rcp M0 M_135 o0 8 880 (20 * x1.toNatClampNeg) i2_135.toInt) → (rcp M0 M_135 o0 10 880 (20 * x1.toNatClampNeg) i2_135.toInt) → (rcp M0 M_135 o0 11 880 (20 * x1.toNatClampNeg) i2_135.toInt) → (rcp M0 M_135 o0 12 880 (20 * x1.toNatClampNeg) i2_135.toInt) → 2147483647 - i2_135.toInt < (k : Int) → mj_V g l kY_TrustDeskModel_stops (d + 1) 107 [(2, .int i2_135), (0, .ref o0), (1, .int x1)] [] M_135 n_135 0 0 (tm_Q tm_FT (tm_in w_TrustDeskModel_stops_x) x9 T0 M0 n0 (fun r _ M => ∃ v : Int32, r = some (.int v) ∧ rI M o0 ∧ (rv M0 o0 19 ≠ 0 → v.toInt < 0 ∧ sA [4, 7, 8, 10, 11, 12] M0 M o0) ∧ (rv M0 o0 19 = 0 → v.toInt = 0 ∧ rcp M0 M o0 4 18480 (420 * x1.toNatClampNeg) (ra M0 o0 5 44) ∧ rcp M0 M o0 7 880 (20 * x1.toNatClampNeg) (ra M0 o0 6 44) ∧ rcp M0 M o0 8 880 (20 * x1.toNatClampNeg) (ra M0 o0 6 44) ∧ rcp M0 M o0 10 880 (20 * x1.toNatClampNeg) (ra M0 o0 6 44) ∧ rcp M0 M o0 11 880 (20 * x1.toNatClampNeg) (ra M0 o0 6 44) ∧ rcp M0 M o0 12 880 (20 * x1.toNatClampNeg) (ra M0 o0 6 44) ∧ ra M o0 6 x1.toNatClampNeg = ra M0 o0 6 44) ∧ (rv M o0 14 = 0) ∧ (ps.1 = 0 → rv M o0 21 = -1 ∧ v.toInt = 0) ∧ (ps.1 ≠ 0 → rv M o0 21 = (ps.2.1 : Int) ∧ v.toInt = -1 - ps.1))) := by
            intro k135
            induction k135 with
            | zero =>
              intro i2_135 T_135 M_135 n_135 I_135 h_q0_135 iv0_135 iv1_135 iv2_135 iv3_135 iv4_135 iv5_135 iv6_135 iv7_135 kKR_135 kKQ4_135 kKQ7_135 kKQ8_135 kKQ10_135 kKQ11_135 kKQ12_135 hk135
              have := mz_hi i2_135
              have := kKR_135.1 15 _ _ rfl
              have := kKR_135.1 16 _ _ rfl
              have := kKR_135.1 19 _ _ rfl
              omega
            | succ k135 ih135 =>
              intro i2_135 T_135 M_135 n_135 I_135 h_q0_135 iv0_135 iv1_135 iv2_135 iv3_135 iv4_135 iv5_135 iv6_135 iv7_135 kKR_135 kKQ4_135 kKQ7_135 kKQ8_135 kKQ10_135 kKQ11_135 kKQ12_135 hk135
              refine mv_iload_n d_TrustDeskModel_stops_107 rfl rfl ?_
              refine mv_aload_n d_TrustDeskModel_stops_108 rfl rfl ?_
              obtain ⟨a137, q136, t_a137⟩ := tm_atR I_135 h_q0_135 (k := 6) rfl
              refine tr_getK q136 d_TrustDeskModel_stops_109 f_TrustDeskModel_23_13 ?_
              refine mv_bipush (v := 44) d_TrustDeskModel_stops_112 (by decide) ?_
              refine tr_ialdR (o := o0) (k := 6) I_135 q136 t_a137 (by decide) d_TrustDeskModel_stops_114 (by unfold vp_in; decide) (fun v138 e139 => ?_)
              have := kKR_135.a (k := 6) rfl (44 : Int32).toNatClampNeg
              have : v138.toInt = ra M_135 o0 6 44 := e139
              have := mz_hi i2_135
              have := mz_hi v138
              refine mv_icmp_geZ (tgt := 216) (a := i2_135.toInt) (b := v138.toInt) d_TrustDeskModel_stops_115 (by decide) rfl rfl (fun b140 => ?_) (fun b140 => ?_)
              · refine mv_iconst (v := 0) d_TrustDeskModel_stops_216 (by decide) ?_
                exact mv_iret d_TrustDeskModel_stops_217 rfl (by first | rfl | decide) ⟨_, I_135, _, rfl, kKR_135, (fun h9 => by exfalso; omega), (fun _ => ⟨by decide, kKQ4_135.cast (by omega), kKQ7_135.cast (by omega), kKQ8_135.cast (by omega), kKQ10_135.cast (by omega), kKQ11_135.cast (by omega), kKQ12_135.cast (by omega), (by omega)⟩), (by omega), ((fun (h8 : rv M_135 o0 21 = -1) (_ : ps.1 = 0) => ⟨h8, by decide⟩) (by omega)), ((fun (h8 : rv M0 o0 19 = 0) (z9 : ps.1 ≠ 0) => absurd ((Im.o yW).symm.trans h8) z9) (by omega))⟩
              · refine mv_sipush (v := 880) d_TrustDeskModel_stops_118 (by decide) ?_
                refine mv_iload_n d_TrustDeskModel_stops_121 rfl rfl ?_
                refine mv_iadd d_TrustDeskModel_stops_122 ?_
                refine mv_istore_n (lv' := [(3, .int (880 + i2_135)), (2, .int i2_135), (0, .ref o0), (1, .int x1)]) d_TrustDeskModel_stops_123 rfl (by decide) rfl ?_
                refine mv_bipush (v := 20) d_TrustDeskModel_stops_124 (by decide) ?_
                refine mv_iload_n d_TrustDeskModel_stops_126 rfl rfl ?_
                refine mv_imul d_TrustDeskModel_stops_127 ?_
                refine mv_iload_n d_TrustDeskModel_stops_128 rfl rfl ?_
                refine mv_iadd d_TrustDeskModel_stops_129 ?_
                refine mv_istore (lv' := [(4, .int ((20 * x1) + i2_135)), (3, .int (880 + i2_135)), (2, .int i2_135), (0, .ref o0), (1, .int x1)]) d_TrustDeskModel_stops_130 (by decide) rfl ?_
                refine mv_aload_n d_TrustDeskModel_stops_132 rfl rfl ?_
                obtain ⟨a142, q141, t_a142⟩ := tm_atR I_135 h_q0_135 (k := 7) rfl
                refine tr_getK q141 d_TrustDeskModel_stops_133 f_TrustDeskModel_26_13 ?_
                refine mv_iload d_TrustDeskModel_stops_136 rfl ?_
                refine mv_aload_n d_TrustDeskModel_stops_138 rfl rfl ?_
                refine tr_getK (k := 7) q141 d_TrustDeskModel_stops_139 f_TrustDeskModel_26_13 ?_
                refine mv_iload_n d_TrustDeskModel_stops_142 rfl rfl ?_
                have b143 : (880 + i2_135 : Int32).toInt = (880 + i2_135.toInt) := mz_add2 (by decide) rfl (by omega) (by omega)
                refine tr_ialdR (o := o0) (k := 7) I_135 q141 t_a142 (by decide) d_TrustDeskModel_stops_143 (vp_in_iff.mpr (by omega)) (fun v144 e145 => ?_)
                have b146 : (20 * x1 : Int32).toInt = (20 * x1.toInt) := mz_mul2 (by decide) rfl (by omega) (by omega)
                have b147 : ((20 * x1) + i2_135 : Int32).toInt = ((20 * x1.toInt) + i2_135.toInt) := mz_add2 b146 rfl (by omega) (by omega)
                refine tr_iastR (k := 7) I_135 kKR_135 (I_135.up h_o0) q141 t_a142 (by decide) (by decide) (fun lo hi h => by cases h) (Or.inl (by decide)) d_TrustDeskModel_stops_144 (vp_in_iff.mpr (by omega)) (fun M148 I149 K150 R151 E152 A153 V154 => ?_)
                have z155 := (V154 14)
                have z156 := (V154 19)
                have z157 := (V154 20)
                have z158 := (V154 21)
                have z159 := (A153 5 (by decide) rfl 44)
                have z160 := (A153 6 (by decide) rfl 44)
                have z161 := (A153 6 (by decide) rfl x1.toNatClampNeg)
                have K162 : rcp M0 M148 o0 4 18480 (420 * x1.toNatClampNeg) i2_129.toInt := kKQ4_135.same (((sA_a A153 (by decide +kernel)) : sA [4] _ _ _) 4 rfl)
                have : (((20 * x1) + i2_135).toNatClampNeg : Int) = ((20 * x1) + i2_135).toInt := mz_nat9 (by omega)
                have : ((880 + i2_135).toNatClampNeg : Int) = (880 + i2_135).toInt := mz_nat9 (by omega)
                have : (x1.toNatClampNeg : Int) = x1.toInt := mz_nat9 (by omega)
                have K163 : rcp M0 M148 o0 7 880 (20 * x1.toNatClampNeg) (i2_135.toInt + 1) := kKQ7_135.st E152 (by omega) (by omega) e145 (by omega) (by omega) rfl
                have K164 : rcp M0 M148 o0 8 880 (20 * x1.toNatClampNeg) i2_135.toInt := kKQ8_135.same (((sA_a A153 (by decide +kernel)) : sA [8] _ _ _) 8 rfl)
                have K165 : rcp M0 M148 o0 10 880 (20 * x1.toNatClampNeg) i2_135.toInt := kKQ10_135.same (((sA_a A153 (by decide +kernel)) : sA [10] _ _ _) 10 rfl)
                have K166 : rcp M0 M148 o0 11 880 (20 * x1.toNatClampNeg) i2_135.toInt := kKQ11_135.same (((sA_a A153 (by decide +kernel)) : sA [11] _ _ _) 11 rfl)
                have K167 : rcp M0 M148 o0 12 880 (20 * x1.toNatClampNeg) i2_135.toInt := kKQ12_135.same (((sA_a A153 (by decide +kernel)) : sA [12] _ _ _) 12 rfl)
                refine mv_aload_n d_TrustDeskModel_stops_145 rfl rfl ?_
                obtain ⟨a169, q168, t_a169⟩ := tm_atR I149 h_q0_135 (k := 8) rfl
                refine tr_getK q168 d_TrustDeskModel_stops_146 f_TrustDeskModel_29_13 ?_
                refine mv_iload d_TrustDeskModel_stops_149 rfl ?_
                refine mv_aload_n d_TrustDeskModel_stops_151 rfl rfl ?_
                refine tr_getK (k := 8) q168 d_TrustDeskModel_stops_152 f_TrustDeskModel_29_13 ?_
                refine mv_iload_n d_TrustDeskModel_stops_155 rfl rfl ?_
                have b170 : (880 + i2_135 : Int32).toInt = (880 + i2_135.toInt) := mz_add2 (by decide) rfl (by omega) (by omega)
                refine tr_ialdR (o := o0) (k := 8) I149 q168 t_a169 (by decide) d_TrustDeskModel_stops_156 (vp_in_iff.mpr (by omega)) (fun v171 e172 => ?_)
                have := R151.a (k := 8) rfl ((880 + i2_135) : Int32).toNatClampNeg
                have b173 : (20 * x1 : Int32).toInt = (20 * x1.toInt) := mz_mul2 (by decide) rfl (by omega) (by omega)
                have b174 : ((20 * x1) + i2_135 : Int32).toInt = ((20 * x1.toInt) + i2_135.toInt) := mz_add2 b173 rfl (by omega) (by omega)
                refine tr_iastR (k := 8) I149 R151 (I149.up h_o0) q168 t_a169 (by decide) (by decide) (fun lo hi h => by cases h; exact ⟨by show ((-1) : Int) ≤ v171.toInt; omega, by show v171.toInt ≤ (720 : Int); omega⟩) (Or.inl (by decide)) d_TrustDeskModel_stops_157 (vp_in_iff.mpr (by omega)) (fun M175 I176 K177 R178 E179 A180 V181 => ?_)
                have z182 := (V181 14).trans z155
                have z183 := (V181 19).trans z156
                have z184 := (V181 20).trans z157
                have z185 := (V181 21).trans z158
                have z186 := (A180 5 (by decide) rfl 44).trans z159
                have z187 := (A180 6 (by decide) rfl 44).trans z160
                have z188 := (A180 6 (by decide) rfl x1.toNatClampNeg).trans z161
                have K189 : rcp M0 M175 o0 4 18480 (420 * x1.toNatClampNeg) i2_129.toInt := K162.same (((sA_a A180 (by decide +kernel)) : sA [4] _ _ _) 4 rfl)
                have K190 : rcp M0 M175 o0 7 880 (20 * x1.toNatClampNeg) (i2_135.toInt + 1) := K163.same (((sA_a A180 (by decide +kernel)) : sA [7] _ _ _) 7 rfl)
                have K191 : rcp M0 M175 o0 8 880 (20 * x1.toNatClampNeg) (i2_135.toInt + 1) := K164.st E179 (by omega) (by omega) e172 (by omega) (by omega) rfl
                have K192 : rcp M0 M175 o0 10 880 (20 * x1.toNatClampNeg) i2_135.toInt := K165.same (((sA_a A180 (by decide +kernel)) : sA [10] _ _ _) 10 rfl)
                have K193 : rcp M0 M175 o0 11 880 (20 * x1.toNatClampNeg) i2_135.toInt := K166.same (((sA_a A180 (by decide +kernel)) : sA [11] _ _ _) 11 rfl)
                have K194 : rcp M0 M175 o0 12 880 (20 * x1.toNatClampNeg) i2_135.toInt := K167.same (((sA_a A180 (by decide +kernel)) : sA [12] _ _ _) 12 rfl)
                clear z155 z157 z158 z159 z160 z161
                refine mv_aload_n d_TrustDeskModel_stops_158 rfl rfl ?_
                obtain ⟨a196, q195, t_a196⟩ := tm_atR I176 h_q0_135 (k := 9) rfl
                refine tr_getK q195 d_TrustDeskModel_stops_159 f_TrustDeskModel_32_13 ?_
                refine mv_iload d_TrustDeskModel_stops_162 rfl ?_
                refine mv_aload_n d_TrustDeskModel_stops_164 rfl rfl ?_
                refine tr_getK (k := 9) q195 d_TrustDeskModel_stops_165 f_TrustDeskModel_32_13 ?_
                refine mv_iload_n d_TrustDeskModel_stops_168 rfl rfl ?_
                have b197 : (880 + i2_135 : Int32).toInt = (880 + i2_135.toInt) := mz_add2 (by decide) rfl (by omega) (by omega)
                refine tr_ialdR (o := o0) (k := 9) I176 q195 t_a196 (by decide) d_TrustDeskModel_stops_169 (vp_in_iff.mpr (by omega)) (fun v198 e199 => ?_)
                have b200 : (20 * x1 : Int32).toInt = (20 * x1.toInt) := mz_mul2 (by decide) rfl (by omega) (by omega)
                have b201 : ((20 * x1) + i2_135 : Int32).toInt = ((20 * x1.toInt) + i2_135.toInt) := mz_add2 b200 rfl (by omega) (by omega)
                refine tr_iastR (k := 9) I176 R178 (I176.up h_o0) q195 t_a196 (by decide) (by decide) (fun lo hi h => by cases h) (Or.inl (by decide)) d_TrustDeskModel_stops_170 (vp_in_iff.mpr (by omega)) (fun M202 I203 K204 R205 E206 A207 V208 => ?_)
                have z209 := (V208 14).trans z182
                have z210 := (V208 19).trans z183
                have z211 := (V208 20).trans z184
                have z212 := (V208 21).trans z185
                have z213 := (A207 5 (by decide) rfl 44).trans z186
                have z214 := (A207 6 (by decide) rfl 44).trans z187
                have z215 := (A207 6 (by decide) rfl x1.toNatClampNeg).trans z188
                have K216 : rcp M0 M202 o0 4 18480 (420 * x1.toNatClampNeg) i2_129.toInt := K189.same (((sA_a A207 (by decide +kernel)) : sA [4] _ _ _) 4 rfl)
                have K217 : rcp M0 M202 o0 7 880 (20 * x1.toNatClampNeg) (i2_135.toInt + 1) := K190.same (((sA_a A207 (by decide +kernel)) : sA [7] _ _ _) 7 rfl)
                have K218 : rcp M0 M202 o0 8 880 (20 * x1.toNatClampNeg) (i2_135.toInt + 1) := K191.same (((sA_a A207 (by decide +kernel)) : sA [8] _ _ _) 8 rfl)
                have K219 : rcp M0 M202 o0 10 880 (20 * x1.toNatClampNeg) i2_135.toInt := K192.same (((sA_a A207 (by decide +kernel)) : sA [10] _ _ _) 10 rfl)
                have K220 : rcp M0 M202 o0 11 880 (20 * x1.toNatClampNeg) i2_135.toInt := K193.same (((sA_a A207 (by decide +kernel)) : sA [11] _ _ _) 11 rfl)
                have K221 : rcp M0 M202 o0 12 880 (20 * x1.toNatClampNeg) i2_135.toInt := K194.same (((sA_a A207 (by decide +kernel)) : sA [12] _ _ _) 12 rfl)
                clear z182 z184 z185 z186 z187 z188
                refine mv_aload_n d_TrustDeskModel_stops_171 rfl rfl ?_
                obtain ⟨a223, q222, t_a223⟩ := tm_atR I203 h_q0_135 (k := 10) rfl
                refine tr_getK q222 d_TrustDeskModel_stops_172 f_TrustDeskModel_35_13 ?_
                refine mv_iload d_TrustDeskModel_stops_175 rfl ?_
                refine mv_aload_n d_TrustDeskModel_stops_177 rfl rfl ?_
                refine tr_getK (k := 10) q222 d_TrustDeskModel_stops_178 f_TrustDeskModel_35_13 ?_
                refine mv_iload_n d_TrustDeskModel_stops_181 rfl rfl ?_
                have b224 : (880 + i2_135 : Int32).toInt = (880 + i2_135.toInt) := mz_add2 (by decide) rfl (by omega) (by omega)
                refine tr_ialdR (o := o0) (k := 10) I203 q222 t_a223 (by decide) d_TrustDeskModel_stops_182 (vp_in_iff.mpr (by omega)) (fun v225 e226 => ?_)
                have := R205.a (k := 10) rfl ((880 + i2_135) : Int32).toNatClampNeg
                have b227 : (20 * x1 : Int32).toInt = (20 * x1.toInt) := mz_mul2 (by decide) rfl (by omega) (by omega)
                have b228 : ((20 * x1) + i2_135 : Int32).toInt = ((20 * x1.toInt) + i2_135.toInt) := mz_add2 b227 rfl (by omega) (by omega)
                refine tr_iastR (k := 10) I203 R205 (I203.up h_o0) q222 t_a223 (by decide) (by decide) (fun lo hi h => by cases h; exact ⟨by show (0 : Int) ≤ v225.toInt; omega, by show v225.toInt ≤ (400 : Int); omega⟩) (Or.inl (by decide)) d_TrustDeskModel_stops_183 (vp_in_iff.mpr (by omega)) (fun M229 I230 K231 R232 E233 A234 V235 => ?_)
                have z236 := (V235 14).trans z209
                have z237 := (V235 19).trans z210
                have z238 := (V235 20).trans z211
                have z239 := (V235 21).trans z212
                have z240 := (A234 5 (by decide) rfl 44).trans z213
                have z241 := (A234 6 (by decide) rfl 44).trans z214
                have z242 := (A234 6 (by decide) rfl x1.toNatClampNeg).trans z215
                have K243 : rcp M0 M229 o0 4 18480 (420 * x1.toNatClampNeg) i2_129.toInt := K216.same (((sA_a A234 (by decide +kernel)) : sA [4] _ _ _) 4 rfl)
                have K244 : rcp M0 M229 o0 7 880 (20 * x1.toNatClampNeg) (i2_135.toInt + 1) := K217.same (((sA_a A234 (by decide +kernel)) : sA [7] _ _ _) 7 rfl)
                have K245 : rcp M0 M229 o0 8 880 (20 * x1.toNatClampNeg) (i2_135.toInt + 1) := K218.same (((sA_a A234 (by decide +kernel)) : sA [8] _ _ _) 8 rfl)
                have K246 : rcp M0 M229 o0 10 880 (20 * x1.toNatClampNeg) (i2_135.toInt + 1) := K219.st E233 (by omega) (by omega) e226 (by omega) (by omega) rfl
                have K247 : rcp M0 M229 o0 11 880 (20 * x1.toNatClampNeg) i2_135.toInt := K220.same (((sA_a A234 (by decide +kernel)) : sA [11] _ _ _) 11 rfl)
                have K248 : rcp M0 M229 o0 12 880 (20 * x1.toNatClampNeg) i2_135.toInt := K221.same (((sA_a A234 (by decide +kernel)) : sA [12] _ _ _) 12 rfl)
                clear z209 z211 z212 z213 z214 z215
                refine mv_aload_n d_TrustDeskModel_stops_184 rfl rfl ?_
                obtain ⟨a250, q249, t_a250⟩ := tm_atR I230 h_q0_135 (k := 11) rfl
                refine tr_getK q249 d_TrustDeskModel_stops_185 f_TrustDeskModel_38_13 ?_
                refine mv_iload d_TrustDeskModel_stops_188 rfl ?_
                refine mv_aload_n d_TrustDeskModel_stops_190 rfl rfl ?_
                refine tr_getK (k := 11) q249 d_TrustDeskModel_stops_191 f_TrustDeskModel_38_13 ?_
                refine mv_iload_n d_TrustDeskModel_stops_194 rfl rfl ?_
                have b251 : (880 + i2_135 : Int32).toInt = (880 + i2_135.toInt) := mz_add2 (by decide) rfl (by omega) (by omega)
                refine tr_ialdR (o := o0) (k := 11) I230 q249 t_a250 (by decide) d_TrustDeskModel_stops_195 (vp_in_iff.mpr (by omega)) (fun v252 e253 => ?_)
                have := R232.a (k := 11) rfl ((880 + i2_135) : Int32).toNatClampNeg
                have b254 : (20 * x1 : Int32).toInt = (20 * x1.toInt) := mz_mul2 (by decide) rfl (by omega) (by omega)
                have b255 : ((20 * x1) + i2_135 : Int32).toInt = ((20 * x1.toInt) + i2_135.toInt) := mz_add2 b254 rfl (by omega) (by omega)
                refine tr_iastR (k := 11) I230 R232 (I230.up h_o0) q249 t_a250 (by decide) (by decide) (fun lo hi h => by cases h; exact ⟨by show (0 : Int) ≤ v252.toInt; omega, by show v252.toInt ≤ (400 : Int); omega⟩) (Or.inl (by decide)) d_TrustDeskModel_stops_196 (vp_in_iff.mpr (by omega)) (fun M256 I257 K258 R259 E260 A261 V262 => ?_)
                have z263 := (V262 14).trans z236
                have z264 := (V262 19).trans z237
                have z265 := (V262 20).trans z238
                have z266 := (V262 21).trans z239
                have z267 := (A261 5 (by decide) rfl 44).trans z240
                have z268 := (A261 6 (by decide) rfl 44).trans z241
                have z269 := (A261 6 (by decide) rfl x1.toNatClampNeg).trans z242
                have K270 : rcp M0 M256 o0 4 18480 (420 * x1.toNatClampNeg) i2_129.toInt := K243.same (((sA_a A261 (by decide +kernel)) : sA [4] _ _ _) 4 rfl)
                have K271 : rcp M0 M256 o0 7 880 (20 * x1.toNatClampNeg) (i2_135.toInt + 1) := K244.same (((sA_a A261 (by decide +kernel)) : sA [7] _ _ _) 7 rfl)
                have K272 : rcp M0 M256 o0 8 880 (20 * x1.toNatClampNeg) (i2_135.toInt + 1) := K245.same (((sA_a A261 (by decide +kernel)) : sA [8] _ _ _) 8 rfl)
                have K273 : rcp M0 M256 o0 10 880 (20 * x1.toNatClampNeg) (i2_135.toInt + 1) := K246.same (((sA_a A261 (by decide +kernel)) : sA [10] _ _ _) 10 rfl)
                have K274 : rcp M0 M256 o0 11 880 (20 * x1.toNatClampNeg) (i2_135.toInt + 1) := K247.st E260 (by omega) (by omega) e253 (by omega) (by omega) rfl
                have K275 : rcp M0 M256 o0 12 880 (20 * x1.toNatClampNeg) i2_135.toInt := K248.same (((sA_a A261 (by decide +kernel)) : sA [12] _ _ _) 12 rfl)
                clear z236 z238 z239 z240 z241 z242
                refine mv_aload_n d_TrustDeskModel_stops_197 rfl rfl ?_
                obtain ⟨a277, q276, t_a277⟩ := tm_atR I257 h_q0_135 (k := 12) rfl
                refine tr_getK q276 d_TrustDeskModel_stops_198 f_TrustDeskModel_41_13 ?_
                refine mv_iload d_TrustDeskModel_stops_201 rfl ?_
                refine mv_aload_n d_TrustDeskModel_stops_203 rfl rfl ?_
                refine tr_getK (k := 12) q276 d_TrustDeskModel_stops_204 f_TrustDeskModel_41_13 ?_
                refine mv_iload_n d_TrustDeskModel_stops_207 rfl rfl ?_
                have b278 : (880 + i2_135 : Int32).toInt = (880 + i2_135.toInt) := mz_add2 (by decide) rfl (by omega) (by omega)
                refine tr_ialdR (o := o0) (k := 12) I257 q276 t_a277 (by decide) d_TrustDeskModel_stops_208 (vp_in_iff.mpr (by omega)) (fun v279 e280 => ?_)
                have := R259.a (k := 12) rfl ((880 + i2_135) : Int32).toNatClampNeg
                have b281 : (20 * x1 : Int32).toInt = (20 * x1.toInt) := mz_mul2 (by decide) rfl (by omega) (by omega)
                have b282 : ((20 * x1) + i2_135 : Int32).toInt = ((20 * x1.toInt) + i2_135.toInt) := mz_add2 b281 rfl (by omega) (by omega)
                refine tr_iastR (k := 12) I257 R259 (I257.up h_o0) q276 t_a277 (by decide) (by decide) (fun lo hi h => by cases h; exact ⟨by show (0 : Int) ≤ v279.toInt; omega, by show v279.toInt ≤ (400 : Int); omega⟩) (Or.inl (by decide)) d_TrustDeskModel_stops_209 (vp_in_iff.mpr (by omega)) (fun M283 I284 K285 R286 E287 A288 V289 => ?_)
                have z290 := (V289 14).trans z263
                have z291 := (V289 19).trans z264
                have z292 := (V289 20).trans z265
                have z293 := (V289 21).trans z266
                have z294 := (A288 5 (by decide) rfl 44).trans z267
                have z295 := (A288 6 (by decide) rfl 44).trans z268
                have z296 := (A288 6 (by decide) rfl x1.toNatClampNeg).trans z269
                have K297 : rcp M0 M283 o0 4 18480 (420 * x1.toNatClampNeg) i2_129.toInt := K270.same (((sA_a A288 (by decide +kernel)) : sA [4] _ _ _) 4 rfl)
                have K298 : rcp M0 M283 o0 7 880 (20 * x1.toNatClampNeg) (i2_135.toInt + 1) := K271.same (((sA_a A288 (by decide +kernel)) : sA [7] _ _ _) 7 rfl)
                have K299 : rcp M0 M283 o0 8 880 (20 * x1.toNatClampNeg) (i2_135.toInt + 1) := K272.same (((sA_a A288 (by decide +kernel)) : sA [8] _ _ _) 8 rfl)
                have K300 : rcp M0 M283 o0 10 880 (20 * x1.toNatClampNeg) (i2_135.toInt + 1) := K273.same (((sA_a A288 (by decide +kernel)) : sA [10] _ _ _) 10 rfl)
                have K301 : rcp M0 M283 o0 11 880 (20 * x1.toNatClampNeg) (i2_135.toInt + 1) := K274.same (((sA_a A288 (by decide +kernel)) : sA [11] _ _ _) 11 rfl)
                have K302 : rcp M0 M283 o0 12 880 (20 * x1.toNatClampNeg) (i2_135.toInt + 1) := K275.st E287 (by omega) (by omega) e280 (by omega) (by omega) rfl
                clear z263 z265 z266 z267 z268 z269
                refine mv_iinc (v := (i2_135 + 1)) (lv' := [(2, .int (i2_135 + 1)), (4, .int ((20 * x1) + i2_135)), (3, .int (880 + i2_135)), (0, .ref o0), (1, .int x1)]) d_TrustDeskModel_stops_210 rfl rfl (by decide) rfl ?_
                refine mv_goto (tgt := 107) d_TrustDeskModel_stops_213 (by decide) ?_
                have b303 : (i2_135 + 1 : Int32).toInt = (i2_135.toInt + 1) := mz_add2 rfl (by decide) (by omega) (by omega)
                have K304 : rcp M0 M283 o0 7 880 (20 * x1.toNatClampNeg) ((i2_135 + 1).toInt) := K298.cast (by omega)
                have K305 : rcp M0 M283 o0 8 880 (20 * x1.toNatClampNeg) ((i2_135 + 1).toInt) := K299.cast (by omega)
                have K306 : rcp M0 M283 o0 10 880 (20 * x1.toNatClampNeg) ((i2_135 + 1).toInt) := K300.cast (by omega)
                have K307 : rcp M0 M283 o0 11 880 (20 * x1.toNatClampNeg) ((i2_135 + 1).toInt) := K301.cast (by omega)
                have K308 : rcp M0 M283 o0 12 880 (20 * x1.toNatClampNeg) ((i2_135 + 1).toInt) := K302.cast (by omega)
                refine mv_locals (lv' := [(2, .int (i2_135 + 1)), (0, .ref o0), (1, .int x1)]) (by intro q hq; simp only [List.mem_cons, List.not_mem_nil, or_false] at hq; rcases hq with rfl | rfl | rfl <;> rfl) ?_
                have b309 : (i2_135 + 1).toInt = i2_135.toInt + 1 := mz_addn 1 1 (by decide) (by have := mz_lo i2_135; omega) (by have := mz_hi i2_135; omega)
                exact (ih135 (i2_135 + 1) T_135 M283 n_135 I284 h_q0_135 (by first | omega | decide | exact fun h9 => absurd (by decide) h9) (by first | omega | decide | exact fun h9 => absurd (by decide) h9) (by first | omega | decide | exact fun h9 => absurd (by decide) h9) (by first | omega | decide | exact fun h9 => absurd (by decide) h9) (by first | omega | decide | exact fun h9 => absurd (by decide) h9) (by first | omega | decide | exact fun h9 => absurd (by decide) h9) (by first | omega | decide | exact fun h9 => absurd (by decide) h9) (by first | omega | decide | exact fun h9 => absurd (by decide) h9) R286 K297 K304 K305 K306 K307 K308 (by omega))
          have : (0 : Int32).toInt = 0 := by decide
          exact mv_less (Nat.zero_le _) (Nat.zero_le _) (L107_135 4294967296 0 T_129 M_129 n_129 I_129 h_q0_129 (by first | omega | decide | exact fun h9 => absurd (by decide) h9) (by first | omega | decide | exact fun h9 => absurd (by decide) h9) (by first | omega | decide | exact fun h9 => absurd (by decide) h9) (by first | omega | decide | exact fun h9 => absurd (by decide) h9) (by first | omega | decide | exact fun h9 => absurd (by decide) h9) (by first | omega | decide | exact fun h9 => absurd (by decide) h9) (by first | omega | decide | exact fun h9 => absurd (by decide) h9) (by first | omega | decide | exact fun h9 => absurd (by decide) h9) kKR_129 kKQ4_129 kKQ7_129 kKQ8_129 kKQ10_129 kKQ11_129 kKQ12_129 (by show (2147483647 - (0 : Int) : Int) < _; decide))
        · refine mv_aload_n d_TrustDeskModel_stops_77 rfl rfl ?_
          obtain ⟨a311, q310, t_a311⟩ := tm_atR I_129 h_q0_129 (k := 4) rfl
          refine tr_getK q310 d_TrustDeskModel_stops_78 f_TrustDeskModel_17_13 ?_
          refine mv_sipush (v := 420) d_TrustDeskModel_stops_81 (by decide) ?_
          refine mv_iload_n d_TrustDeskModel_stops_84 rfl rfl ?_
          refine mv_imul d_TrustDeskModel_stops_85 ?_
          refine mv_iload_n d_TrustDeskModel_stops_86 rfl rfl ?_
          refine mv_iadd d_TrustDeskModel_stops_87 ?_
          refine mv_aload_n d_TrustDeskModel_stops_88 rfl rfl ?_
          refine tr_getK (k := 4) q310 d_TrustDeskModel_stops_89 f_TrustDeskModel_17_13 ?_
          refine mv_sipush (v := 18480) d_TrustDeskModel_stops_92 (by decide) ?_
          refine mv_iload_n d_TrustDeskModel_stops_95 rfl rfl ?_
          refine mv_iadd d_TrustDeskModel_stops_96 ?_
          have b312 : (18480 + i2_129 : Int32).toInt = (18480 + i2_129.toInt) := mz_add2 (by decide) rfl (by omega) (by omega)
          refine tr_ialdR (o := o0) (k := 4) I_129 q310 t_a311 (by decide) d_TrustDeskModel_stops_97 (vp_in_iff.mpr (by omega)) (fun v313 e314 => ?_)
          have := kKR_129.a (k := 4) rfl ((18480 + i2_129) : Int32).toNatClampNeg
          have b315 : (420 * x1 : Int32).toInt = (420 * x1.toInt) := mz_mul2 (by decide) rfl (by omega) (by omega)
          have b316 : ((420 * x1) + i2_129 : Int32).toInt = ((420 * x1.toInt) + i2_129.toInt) := mz_add2 b315 rfl (by omega) (by omega)
          refine tr_iastR (k := 4) I_129 kKR_129 (I_129.up h_o0) q310 t_a311 (by decide) (by decide) (fun lo hi h => by cases h; exact ⟨by show ((-9) : Int) ≤ v313.toInt; omega, by show v313.toInt ≤ (10012 : Int); omega⟩) (Or.inl (by decide)) d_TrustDeskModel_stops_98 (vp_in_iff.mpr (by omega)) (fun M317 I318 K319 R320 E321 A322 V323 => ?_)
          have z324 := (V323 14)
          have z325 := (V323 19)
          have z326 := (V323 20)
          have z327 := (V323 21)
          have z328 := (A322 5 (by decide) rfl 44)
          have z329 := (A322 6 (by decide) rfl 44)
          have z330 := (A322 6 (by decide) rfl x1.toNatClampNeg)
          have : (((420 * x1) + i2_129).toNatClampNeg : Int) = ((420 * x1) + i2_129).toInt := mz_nat9 (by omega)
          have : ((18480 + i2_129).toNatClampNeg : Int) = (18480 + i2_129).toInt := mz_nat9 (by omega)
          have : (x1.toNatClampNeg : Int) = x1.toInt := mz_nat9 (by omega)
          have K331 : rcp M0 M317 o0 4 18480 (420 * x1.toNatClampNeg) (i2_129.toInt + 1) := kKQ4_129.st E321 (by omega) (by omega) e314 (by omega) (by omega) rfl
          have K332 : rcp M0 M317 o0 7 880 (20 * x1.toNatClampNeg) 0 := kKQ7_129.same (((sA_a A322 (by decide +kernel)) : sA [7] _ _ _) 7 rfl)
          have K333 : rcp M0 M317 o0 8 880 (20 * x1.toNatClampNeg) 0 := kKQ8_129.same (((sA_a A322 (by decide +kernel)) : sA [8] _ _ _) 8 rfl)
          have K334 : rcp M0 M317 o0 10 880 (20 * x1.toNatClampNeg) 0 := kKQ10_129.same (((sA_a A322 (by decide +kernel)) : sA [10] _ _ _) 10 rfl)
          have K335 : rcp M0 M317 o0 11 880 (20 * x1.toNatClampNeg) 0 := kKQ11_129.same (((sA_a A322 (by decide +kernel)) : sA [11] _ _ _) 11 rfl)
          have K336 : rcp M0 M317 o0 12 880 (20 * x1.toNatClampNeg) 0 := kKQ12_129.same (((sA_a A322 (by decide +kernel)) : sA [12] _ _ _) 12 rfl)
          refine mv_iinc (v := (i2_129 + 1)) (lv' := [(2, .int (i2_129 + 1)), (0, .ref o0), (1, .int x1)]) d_TrustDeskModel_stops_99 rfl rfl (by decide) rfl ?_
          refine mv_goto (tgt := 66) d_TrustDeskModel_stops_102 (by decide) ?_
          have b337 : (i2_129 + 1 : Int32).toInt = (i2_129.toInt + 1) := mz_add2 rfl (by decide) (by omega) (by omega)
          have K338 : rcp M0 M317 o0 4 18480 (420 * x1.toNatClampNeg) ((i2_129 + 1).toInt) := K331.cast (by omega)
          have b339 : (i2_129 + 1).toInt = i2_129.toInt + 1 := mz_addn 1 1 (by decide) (by have := mz_lo i2_129; omega) (by have := mz_hi i2_129; omega)
          exact (ih129 (i2_129 + 1) T_129 M317 n_129 I318 h_q0_129 (by first | omega | decide | exact fun h9 => absurd (by decide) h9) (by first | omega | decide | exact fun h9 => absurd (by decide) h9) (by first | omega | decide | exact fun h9 => absurd (by decide) h9) (by first | omega | decide | exact fun h9 => absurd (by decide) h9) (by first | omega | decide | exact fun h9 => absurd (by decide) h9) (by first | omega | decide | exact fun h9 => absurd (by decide) h9) (by first | omega | decide | exact fun h9 => absurd (by decide) h9) (by first | omega | decide | exact fun h9 => absurd (by decide) h9) R320 K338 K332 K333 K334 K335 K336 (by omega))
    have : (0 : Int32).toInt = 0 := by decide
    exact mv_less (Nat.zero_le _) (Nat.zero_le _) (L66_129 4294967296 0 T0 M107 n0 I108 h_o0 (by first | omega | decide | exact fun h9 => absurd (by decide) h9) (by first | omega | decide | exact fun h9 => absurd (by decide) h9) (by first | omega | decide | exact fun h9 => absurd (by decide) h9) (by first | omega | decide | exact fun h9 => absurd (by decide) h9) (by first | omega | decide | exact fun h9 => absurd (by decide) h9) (by first | omega | decide | exact fun h9 => absurd (by decide) h9) (by first | omega | decide | exact fun h9 => absurd (by decide) h9) (by first | omega | decide | exact fun h9 => absurd (by decide) h9) R110 K122 K123 K124 K125 K126 K127 (by show (2147483647 - (0 : Int) : Int) < _; decide))
