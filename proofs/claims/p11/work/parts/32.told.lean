abbrev kY_TrustDeskModel_stops : mj_Y := (⟨"TrustDeskModel", "stops", "(I)I"⟩, prog_14_method_42_code, 5, (Option.some Jvm.ClassFile.FieldType.int))
theorem d_TrustDeskModel_stops_0 : decode kY_TrustDeskModel_stops.2.1 0 = .ok (.aload_n 0, 1) := by decide +kernel
theorem d_TrustDeskModel_stops_1 : decode kY_TrustDeskModel_stops.2.1 1 = .ok (.iconst 0, 1) := by decide +kernel
theorem d_TrustDeskModel_stops_2 : decode kY_TrustDeskModel_stops.2.1 2 = .ok (.putfield 189, 3) := by decide +kernel
theorem p_TrustDeskModel_189_13 : mj_fp "TrustDeskModel" 189 13 14 (kt_TrustDeskModel 14) false := ⟨kR_TrustDeskModel, kF_TrustDeskModel, 72, "TrustDeskModel", kt_TrustDeskModel, rfl, kg_13, by decide, (mj_in1 (List.mem_of_getElem? (i := 1400) (by decide +kernel)) rfl), Or.inl rfl, kto_TrustDeskModel, kn_TrustDeskModel, rfl, rfl, fun h => by cases h⟩
theorem d_TrustDeskModel_stops_5 : decode kY_TrustDeskModel_stops.2.1 5 = .ok (.aload_n 0, 1) := by decide +kernel
theorem d_TrustDeskModel_stops_6 : decode kY_TrustDeskModel_stops.2.1 6 = .ok (.aload_n 0, 1) := by decide +kernel
theorem d_TrustDeskModel_stops_7 : decode kY_TrustDeskModel_stops.2.1 7 = .ok (.invokevirtual 230, 3) := by decide +kernel
theorem d_TrustDeskModel_stops_10 : decode kY_TrustDeskModel_stops.2.1 10 = .ok (.ifCond .eq 7, 3) := by decide +kernel
theorem d_TrustDeskModel_stops_17 : decode kY_TrustDeskModel_stops.2.1 17 = .ok (.aload_n 0, 1) := by decide +kernel
theorem d_TrustDeskModel_stops_18 : decode kY_TrustDeskModel_stops.2.1 18 = .ok (.getfield 227, 3) := by decide +kernel
theorem f_TrustDeskModel_227_13 : mj_fl "TrustDeskModel" 227 13 20 := ⟨kR_TrustDeskModel, kF_TrustDeskModel, 72, "TrustDeskModel", rfl, kg_13, by decide, (mj_in1 (List.mem_of_getElem? (i := 1406) (by decide +kernel)) rfl), Or.inl rfl⟩
theorem d_TrustDeskModel_stops_21 : decode kY_TrustDeskModel_stops.2.1 21 = .ok (.putfield 48, 3) := by decide +kernel
theorem d_TrustDeskModel_stops_24 : decode kY_TrustDeskModel_stops.2.1 24 = .ok (.aload_n 0, 1) := by decide +kernel
theorem d_TrustDeskModel_stops_25 : decode kY_TrustDeskModel_stops.2.1 25 = .ok (.invokevirtual 230, 3) := by decide +kernel
theorem d_TrustDeskModel_stops_28 : decode kY_TrustDeskModel_stops.2.1 28 = .ok (.ifCond .ne 10, 3) := by decide +kernel
theorem d_TrustDeskModel_stops_31 : decode kY_TrustDeskModel_stops.2.1 31 = .ok (.iconst (-1), 1) := by decide +kernel
theorem d_TrustDeskModel_stops_32 : decode kY_TrustDeskModel_stops.2.1 32 = .ok (.aload_n 0, 1) := by decide +kernel
theorem d_TrustDeskModel_stops_33 : decode kY_TrustDeskModel_stops.2.1 33 = .ok (.getfield 224, 3) := by decide +kernel
theorem d_TrustDeskModel_stops_36 : decode kY_TrustDeskModel_stops.2.1 36 = .ok (.isub, 1) := by decide +kernel
theorem d_TrustDeskModel_stops_37 : decode kY_TrustDeskModel_stops.2.1 37 = .ok (.ireturn, 1) := by decide +kernel
theorem d_TrustDeskModel_stops_38 : decode kY_TrustDeskModel_stops.2.1 38 = .ok (.aload_n 0, 1) := by decide +kernel
theorem d_TrustDeskModel_stops_39 : decode kY_TrustDeskModel_stops.2.1 39 = .ok (.getfield 20, 3) := by decide +kernel
theorem d_TrustDeskModel_stops_42 : decode kY_TrustDeskModel_stops.2.1 42 = .ok (.iload_n 1, 1) := by decide +kernel
theorem d_TrustDeskModel_stops_43 : decode kY_TrustDeskModel_stops.2.1 43 = .ok (.aload_n 0, 1) := by decide +kernel
theorem d_TrustDeskModel_stops_44 : decode kY_TrustDeskModel_stops.2.1 44 = .ok (.getfield 20, 3) := by decide +kernel
theorem d_TrustDeskModel_stops_47 : decode kY_TrustDeskModel_stops.2.1 47 = .ok (.bipush 44, 2) := by decide +kernel
theorem d_TrustDeskModel_stops_49 : decode kY_TrustDeskModel_stops.2.1 49 = .ok (.iaload, 1) := by decide +kernel
theorem d_TrustDeskModel_stops_50 : decode kY_TrustDeskModel_stops.2.1 50 = .ok (.iastore, 1) := by decide +kernel
theorem d_TrustDeskModel_stops_51 : decode kY_TrustDeskModel_stops.2.1 51 = .ok (.aload_n 0, 1) := by decide +kernel
theorem d_TrustDeskModel_stops_52 : decode kY_TrustDeskModel_stops.2.1 52 = .ok (.getfield 23, 3) := by decide +kernel
theorem d_TrustDeskModel_stops_55 : decode kY_TrustDeskModel_stops.2.1 55 = .ok (.iload_n 1, 1) := by decide +kernel
theorem d_TrustDeskModel_stops_56 : decode kY_TrustDeskModel_stops.2.1 56 = .ok (.aload_n 0, 1) := by decide +kernel
theorem d_TrustDeskModel_stops_57 : decode kY_TrustDeskModel_stops.2.1 57 = .ok (.getfield 23, 3) := by decide +kernel
theorem d_TrustDeskModel_stops_60 : decode kY_TrustDeskModel_stops.2.1 60 = .ok (.bipush 44, 2) := by decide +kernel
theorem d_TrustDeskModel_stops_62 : decode kY_TrustDeskModel_stops.2.1 62 = .ok (.iaload, 1) := by decide +kernel
theorem d_TrustDeskModel_stops_63 : decode kY_TrustDeskModel_stops.2.1 63 = .ok (.iastore, 1) := by decide +kernel
theorem d_TrustDeskModel_stops_64 : decode kY_TrustDeskModel_stops.2.1 64 = .ok (.iconst 0, 1) := by decide +kernel
theorem d_TrustDeskModel_stops_65 : decode kY_TrustDeskModel_stops.2.1 65 = .ok (.istore_n 2, 1) := by decide +kernel
theorem d_TrustDeskModel_stops_66 : decode kY_TrustDeskModel_stops.2.1 66 = .ok (.iload_n 2, 1) := by decide +kernel
theorem d_TrustDeskModel_stops_67 : decode kY_TrustDeskModel_stops.2.1 67 = .ok (.aload_n 0, 1) := by decide +kernel
theorem d_TrustDeskModel_stops_68 : decode kY_TrustDeskModel_stops.2.1 68 = .ok (.getfield 20, 3) := by decide +kernel
theorem d_TrustDeskModel_stops_71 : decode kY_TrustDeskModel_stops.2.1 71 = .ok (.bipush 44, 2) := by decide +kernel
theorem d_TrustDeskModel_stops_73 : decode kY_TrustDeskModel_stops.2.1 73 = .ok (.iaload, 1) := by decide +kernel
theorem d_TrustDeskModel_stops_74 : decode kY_TrustDeskModel_stops.2.1 74 = .ok (.if_icmp .ge 31, 3) := by decide +kernel
theorem d_TrustDeskModel_stops_105 : decode kY_TrustDeskModel_stops.2.1 105 = .ok (.iconst 0, 1) := by decide +kernel
theorem d_TrustDeskModel_stops_106 : decode kY_TrustDeskModel_stops.2.1 106 = .ok (.istore_n 2, 1) := by decide +kernel
theorem d_TrustDeskModel_stops_107 : decode kY_TrustDeskModel_stops.2.1 107 = .ok (.iload_n 2, 1) := by decide +kernel
theorem d_TrustDeskModel_stops_108 : decode kY_TrustDeskModel_stops.2.1 108 = .ok (.aload_n 0, 1) := by decide +kernel
theorem d_TrustDeskModel_stops_109 : decode kY_TrustDeskModel_stops.2.1 109 = .ok (.getfield 23, 3) := by decide +kernel
theorem d_TrustDeskModel_stops_112 : decode kY_TrustDeskModel_stops.2.1 112 = .ok (.bipush 44, 2) := by decide +kernel
theorem d_TrustDeskModel_stops_114 : decode kY_TrustDeskModel_stops.2.1 114 = .ok (.iaload, 1) := by decide +kernel
theorem d_TrustDeskModel_stops_115 : decode kY_TrustDeskModel_stops.2.1 115 = .ok (.if_icmp .ge 101, 3) := by decide +kernel
theorem d_TrustDeskModel_stops_216 : decode kY_TrustDeskModel_stops.2.1 216 = .ok (.iconst 0, 1) := by decide +kernel
theorem d_TrustDeskModel_stops_217 : decode kY_TrustDeskModel_stops.2.1 217 = .ok (.ireturn, 1) := by decide +kernel
theorem d_TrustDeskModel_stops_118 : decode kY_TrustDeskModel_stops.2.1 118 = .ok (.sipush 880, 3) := by decide +kernel
theorem d_TrustDeskModel_stops_121 : decode kY_TrustDeskModel_stops.2.1 121 = .ok (.iload_n 2, 1) := by decide +kernel
theorem d_TrustDeskModel_stops_122 : decode kY_TrustDeskModel_stops.2.1 122 = .ok (.iadd, 1) := by decide +kernel
theorem d_TrustDeskModel_stops_123 : decode kY_TrustDeskModel_stops.2.1 123 = .ok (.istore_n 3, 1) := by decide +kernel
theorem d_TrustDeskModel_stops_124 : decode kY_TrustDeskModel_stops.2.1 124 = .ok (.bipush 20, 2) := by decide +kernel
theorem d_TrustDeskModel_stops_126 : decode kY_TrustDeskModel_stops.2.1 126 = .ok (.iload_n 1, 1) := by decide +kernel
theorem d_TrustDeskModel_stops_127 : decode kY_TrustDeskModel_stops.2.1 127 = .ok (.imul, 1) := by decide +kernel
theorem d_TrustDeskModel_stops_128 : decode kY_TrustDeskModel_stops.2.1 128 = .ok (.iload_n 2, 1) := by decide +kernel
theorem d_TrustDeskModel_stops_129 : decode kY_TrustDeskModel_stops.2.1 129 = .ok (.iadd, 1) := by decide +kernel
theorem d_TrustDeskModel_stops_130 : decode kY_TrustDeskModel_stops.2.1 130 = .ok (.istore 4, 2) := by decide +kernel
theorem d_TrustDeskModel_stops_132 : decode kY_TrustDeskModel_stops.2.1 132 = .ok (.aload_n 0, 1) := by decide +kernel
theorem d_TrustDeskModel_stops_133 : decode kY_TrustDeskModel_stops.2.1 133 = .ok (.getfield 26, 3) := by decide +kernel
theorem d_TrustDeskModel_stops_136 : decode kY_TrustDeskModel_stops.2.1 136 = .ok (.iload 4, 2) := by decide +kernel
theorem d_TrustDeskModel_stops_138 : decode kY_TrustDeskModel_stops.2.1 138 = .ok (.aload_n 0, 1) := by decide +kernel
theorem d_TrustDeskModel_stops_139 : decode kY_TrustDeskModel_stops.2.1 139 = .ok (.getfield 26, 3) := by decide +kernel
theorem d_TrustDeskModel_stops_142 : decode kY_TrustDeskModel_stops.2.1 142 = .ok (.iload_n 3, 1) := by decide +kernel
theorem d_TrustDeskModel_stops_143 : decode kY_TrustDeskModel_stops.2.1 143 = .ok (.iaload, 1) := by decide +kernel
theorem d_TrustDeskModel_stops_144 : decode kY_TrustDeskModel_stops.2.1 144 = .ok (.iastore, 1) := by decide +kernel
theorem d_TrustDeskModel_stops_145 : decode kY_TrustDeskModel_stops.2.1 145 = .ok (.aload_n 0, 1) := by decide +kernel
theorem d_TrustDeskModel_stops_146 : decode kY_TrustDeskModel_stops.2.1 146 = .ok (.getfield 29, 3) := by decide +kernel
theorem d_TrustDeskModel_stops_149 : decode kY_TrustDeskModel_stops.2.1 149 = .ok (.iload 4, 2) := by decide +kernel
theorem d_TrustDeskModel_stops_151 : decode kY_TrustDeskModel_stops.2.1 151 = .ok (.aload_n 0, 1) := by decide +kernel
theorem d_TrustDeskModel_stops_152 : decode kY_TrustDeskModel_stops.2.1 152 = .ok (.getfield 29, 3) := by decide +kernel
theorem d_TrustDeskModel_stops_155 : decode kY_TrustDeskModel_stops.2.1 155 = .ok (.iload_n 3, 1) := by decide +kernel
theorem d_TrustDeskModel_stops_156 : decode kY_TrustDeskModel_stops.2.1 156 = .ok (.iaload, 1) := by decide +kernel
theorem d_TrustDeskModel_stops_157 : decode kY_TrustDeskModel_stops.2.1 157 = .ok (.iastore, 1) := by decide +kernel
theorem d_TrustDeskModel_stops_158 : decode kY_TrustDeskModel_stops.2.1 158 = .ok (.aload_n 0, 1) := by decide +kernel
theorem d_TrustDeskModel_stops_159 : decode kY_TrustDeskModel_stops.2.1 159 = .ok (.getfield 32, 3) := by decide +kernel
theorem d_TrustDeskModel_stops_162 : decode kY_TrustDeskModel_stops.2.1 162 = .ok (.iload 4, 2) := by decide +kernel
theorem d_TrustDeskModel_stops_164 : decode kY_TrustDeskModel_stops.2.1 164 = .ok (.aload_n 0, 1) := by decide +kernel
theorem d_TrustDeskModel_stops_165 : decode kY_TrustDeskModel_stops.2.1 165 = .ok (.getfield 32, 3) := by decide +kernel
theorem d_TrustDeskModel_stops_168 : decode kY_TrustDeskModel_stops.2.1 168 = .ok (.iload_n 3, 1) := by decide +kernel
theorem d_TrustDeskModel_stops_169 : decode kY_TrustDeskModel_stops.2.1 169 = .ok (.iaload, 1) := by decide +kernel
theorem d_TrustDeskModel_stops_170 : decode kY_TrustDeskModel_stops.2.1 170 = .ok (.iastore, 1) := by decide +kernel
theorem d_TrustDeskModel_stops_171 : decode kY_TrustDeskModel_stops.2.1 171 = .ok (.aload_n 0, 1) := by decide +kernel
theorem d_TrustDeskModel_stops_172 : decode kY_TrustDeskModel_stops.2.1 172 = .ok (.getfield 35, 3) := by decide +kernel
theorem d_TrustDeskModel_stops_175 : decode kY_TrustDeskModel_stops.2.1 175 = .ok (.iload 4, 2) := by decide +kernel
theorem d_TrustDeskModel_stops_177 : decode kY_TrustDeskModel_stops.2.1 177 = .ok (.aload_n 0, 1) := by decide +kernel
theorem d_TrustDeskModel_stops_178 : decode kY_TrustDeskModel_stops.2.1 178 = .ok (.getfield 35, 3) := by decide +kernel
theorem d_TrustDeskModel_stops_181 : decode kY_TrustDeskModel_stops.2.1 181 = .ok (.iload_n 3, 1) := by decide +kernel
theorem d_TrustDeskModel_stops_182 : decode kY_TrustDeskModel_stops.2.1 182 = .ok (.iaload, 1) := by decide +kernel
theorem d_TrustDeskModel_stops_183 : decode kY_TrustDeskModel_stops.2.1 183 = .ok (.iastore, 1) := by decide +kernel
theorem d_TrustDeskModel_stops_184 : decode kY_TrustDeskModel_stops.2.1 184 = .ok (.aload_n 0, 1) := by decide +kernel
theorem d_TrustDeskModel_stops_185 : decode kY_TrustDeskModel_stops.2.1 185 = .ok (.getfield 38, 3) := by decide +kernel
theorem d_TrustDeskModel_stops_188 : decode kY_TrustDeskModel_stops.2.1 188 = .ok (.iload 4, 2) := by decide +kernel
theorem d_TrustDeskModel_stops_190 : decode kY_TrustDeskModel_stops.2.1 190 = .ok (.aload_n 0, 1) := by decide +kernel
theorem d_TrustDeskModel_stops_191 : decode kY_TrustDeskModel_stops.2.1 191 = .ok (.getfield 38, 3) := by decide +kernel
theorem d_TrustDeskModel_stops_194 : decode kY_TrustDeskModel_stops.2.1 194 = .ok (.iload_n 3, 1) := by decide +kernel
theorem d_TrustDeskModel_stops_195 : decode kY_TrustDeskModel_stops.2.1 195 = .ok (.iaload, 1) := by decide +kernel
theorem d_TrustDeskModel_stops_196 : decode kY_TrustDeskModel_stops.2.1 196 = .ok (.iastore, 1) := by decide +kernel
theorem d_TrustDeskModel_stops_197 : decode kY_TrustDeskModel_stops.2.1 197 = .ok (.aload_n 0, 1) := by decide +kernel
theorem d_TrustDeskModel_stops_198 : decode kY_TrustDeskModel_stops.2.1 198 = .ok (.getfield 41, 3) := by decide +kernel
theorem d_TrustDeskModel_stops_201 : decode kY_TrustDeskModel_stops.2.1 201 = .ok (.iload 4, 2) := by decide +kernel
theorem d_TrustDeskModel_stops_203 : decode kY_TrustDeskModel_stops.2.1 203 = .ok (.aload_n 0, 1) := by decide +kernel
theorem d_TrustDeskModel_stops_204 : decode kY_TrustDeskModel_stops.2.1 204 = .ok (.getfield 41, 3) := by decide +kernel
theorem d_TrustDeskModel_stops_207 : decode kY_TrustDeskModel_stops.2.1 207 = .ok (.iload_n 3, 1) := by decide +kernel
theorem d_TrustDeskModel_stops_208 : decode kY_TrustDeskModel_stops.2.1 208 = .ok (.iaload, 1) := by decide +kernel
theorem d_TrustDeskModel_stops_209 : decode kY_TrustDeskModel_stops.2.1 209 = .ok (.iastore, 1) := by decide +kernel
theorem d_TrustDeskModel_stops_210 : decode kY_TrustDeskModel_stops.2.1 210 = .ok (.iinc 2 1, 3) := by decide +kernel
theorem d_TrustDeskModel_stops_213 : decode kY_TrustDeskModel_stops.2.1 213 = .ok (.goto (-106), 3) := by decide +kernel
theorem d_TrustDeskModel_stops_77 : decode kY_TrustDeskModel_stops.2.1 77 = .ok (.aload_n 0, 1) := by decide +kernel
theorem d_TrustDeskModel_stops_78 : decode kY_TrustDeskModel_stops.2.1 78 = .ok (.getfield 17, 3) := by decide +kernel
theorem d_TrustDeskModel_stops_81 : decode kY_TrustDeskModel_stops.2.1 81 = .ok (.sipush 420, 3) := by decide +kernel
theorem d_TrustDeskModel_stops_84 : decode kY_TrustDeskModel_stops.2.1 84 = .ok (.iload_n 1, 1) := by decide +kernel
theorem d_TrustDeskModel_stops_85 : decode kY_TrustDeskModel_stops.2.1 85 = .ok (.imul, 1) := by decide +kernel
theorem d_TrustDeskModel_stops_86 : decode kY_TrustDeskModel_stops.2.1 86 = .ok (.iload_n 2, 1) := by decide +kernel
theorem d_TrustDeskModel_stops_87 : decode kY_TrustDeskModel_stops.2.1 87 = .ok (.iadd, 1) := by decide +kernel
theorem d_TrustDeskModel_stops_88 : decode kY_TrustDeskModel_stops.2.1 88 = .ok (.aload_n 0, 1) := by decide +kernel
theorem d_TrustDeskModel_stops_89 : decode kY_TrustDeskModel_stops.2.1 89 = .ok (.getfield 17, 3) := by decide +kernel
theorem d_TrustDeskModel_stops_92 : decode kY_TrustDeskModel_stops.2.1 92 = .ok (.sipush 18480, 3) := by decide +kernel
theorem d_TrustDeskModel_stops_95 : decode kY_TrustDeskModel_stops.2.1 95 = .ok (.iload_n 2, 1) := by decide +kernel
theorem d_TrustDeskModel_stops_96 : decode kY_TrustDeskModel_stops.2.1 96 = .ok (.iadd, 1) := by decide +kernel
theorem d_TrustDeskModel_stops_97 : decode kY_TrustDeskModel_stops.2.1 97 = .ok (.iaload, 1) := by decide +kernel
theorem d_TrustDeskModel_stops_98 : decode kY_TrustDeskModel_stops.2.1 98 = .ok (.iastore, 1) := by decide +kernel
theorem d_TrustDeskModel_stops_99 : decode kY_TrustDeskModel_stops.2.1 99 = .ok (.iinc 2 1, 3) := by decide +kernel
theorem d_TrustDeskModel_stops_102 : decode kY_TrustDeskModel_stops.2.1 102 = .ok (.goto (-36), 3) := by decide +kernel
theorem d_TrustDeskModel_stops_13 : decode kY_TrustDeskModel_stops.2.1 13 = .ok (.iconst (-1), 1) := by decide +kernel
theorem d_TrustDeskModel_stops_14 : decode kY_TrustDeskModel_stops.2.1 14 = .ok (.goto 7, 3) := by decide +kernel
def w_TrustDeskModel_stops_x : List Nat := [1314, 1321, 20004, 20005, 20006, 20007, 20008, 20009, 20010, 20011, 20012]
set_option maxHeartbeats 100000000 in theorem tc_TrustDeskModel_stops_x {g : mj_G} {l : Launch} {d : Nat} {T0 : tm_H} {M0 : mj_M} {n0 x9 : Nat} {o0 : Nat} {x1 : Int32} (h_o0 : T0 o0 = some (0, 13, 0)) (yR : rI M0 o0) (yx : 0 ≤ x1.toInt ∧ x1.toInt ≤ 43) (I0 : tm_I tm_FT (tm_in w_TrustDeskModel_stops_x) x9 T0 M0 n0 T0 M0 n0) : mj_Met g l kY_TrustDeskModel_stops (d + 1) [.ref o0, .int x1] M0 n0 0 0 (tm_Q tm_FT (tm_in w_TrustDeskModel_stops_x) x9 T0 M0 n0 (fun r _ M => ∃ v : Int32, r = some (.int v) ∧ rI M o0 ∧ (rv M0 o0 19 ≠ 0 → v.toInt < 0 ∧ sA [4, 7, 8, 10, 11, 12] M0 M o0) ∧ (rv M0 o0 19 = 0 → v.toInt = 0 ∧ rcp M0 M o0 4 18480 (420 * x1.toNatClampNeg) (ra M0 o0 5 44) ∧ rcp M0 M o0 7 880 (20 * x1.toNatClampNeg) (ra M0 o0 6 44) ∧ rcp M0 M o0 8 880 (20 * x1.toNatClampNeg) (ra M0 o0 6 44) ∧ rcp M0 M o0 10 880 (20 * x1.toNatClampNeg) (ra M0 o0 6 44) ∧ rcp M0 M o0 11 880 (20 * x1.toNatClampNeg) (ra M0 o0 6 44) ∧ rcp M0 M o0 12 880 (20 * x1.toNatClampNeg) (ra M0 o0 6 44) ∧ ra M o0 6 x1.toNatClampNeg = ra M0 o0 6 44))) := by
  refine mj_enter (by decide) (Nat.le_of_ble_eq_true rfl) ?_
  have K1 : rcp M0 M0 o0 4 18480 (420 * x1.toNatClampNeg) 0 := rcp.rf
  have K2 : rcp M0 M0 o0 7 880 (20 * x1.toNatClampNeg) 0 := rcp.rf
  have K3 : rcp M0 M0 o0 8 880 (20 * x1.toNatClampNeg) 0 := rcp.rf
  have K4 : rcp M0 M0 o0 10 880 (20 * x1.toNatClampNeg) 0 := rcp.rf
  have K5 : rcp M0 M0 o0 11 880 (20 * x1.toNatClampNeg) 0 := rcp.rf
  have K6 : rcp M0 M0 o0 12 880 (20 * x1.toNatClampNeg) 0 := rcp.rf
  have K7 : sA [4, 7, 8, 10, 11, 12] M0 M0 o0 := sA.rf
  have := yR.2 5 _ _ rfl 44
  have := yR.2 6 _ _ rfl 44
  refine mv_aload_n d_TrustDeskModel_stops_0 rfl rfl ?_
  refine mv_iconst (v := 0) d_TrustDeskModel_stops_1 (by decide) ?_
  refine tr_putR (k := 14) I0 yR h_o0 rfl ⟨_, rfl⟩ (fun _ h => by cases h) rfl (fun lo hi h => by cases h; exact (by decide)) (Or.inl (by decide)) d_TrustDeskModel_stops_2 p_TrustDeskModel_189_13 rfl rfl (fun M8 I9 q10 K11 R12 A13 V14 => ?_)
  have z15 := (V14 19 (by decide))
  have z16 := (A13 5 (by decide) 44)
  have z17 := (A13 6 (by decide) 44)
  have K18 : rcp M0 M8 o0 4 18480 (420 * x1.toNatClampNeg) 0 := K1.same (((sA_f A13 (by decide)) : sA [4] _ _ _) 4 rfl)
  have K19 : rcp M0 M8 o0 7 880 (20 * x1.toNatClampNeg) 0 := K2.same (((sA_f A13 (by decide)) : sA [7] _ _ _) 7 rfl)
  have K20 : rcp M0 M8 o0 8 880 (20 * x1.toNatClampNeg) 0 := K3.same (((sA_f A13 (by decide)) : sA [8] _ _ _) 8 rfl)
  have K21 : rcp M0 M8 o0 10 880 (20 * x1.toNatClampNeg) 0 := K4.same (((sA_f A13 (by decide)) : sA [10] _ _ _) 10 rfl)
  have K22 : rcp M0 M8 o0 11 880 (20 * x1.toNatClampNeg) 0 := K5.same (((sA_f A13 (by decide)) : sA [11] _ _ _) 11 rfl)
  have K23 : rcp M0 M8 o0 12 880 (20 * x1.toNatClampNeg) 0 := K6.same (((sA_f A13 (by decide)) : sA [12] _ _ _) 12 rfl)
  have K24 : sA [4, 7, 8, 10, 11, 12] M0 M8 o0 := K7.trans (sA_f A13 (by decide))
  refine mv_aload_n d_TrustDeskModel_stops_5 rfl rfl ?_
  refine mv_aload_n d_TrustDeskModel_stops_6 rfl rfl ?_
  obtain ⟨_, b25, -⟩ := I9.1 _ _ h_o0
  refine mv_callV (kc1 := 0) (ks1 := 0) (kc' := 0) (ks' := 0) (As := []) (st9 := [.ref o0, .ref o0]) d_TrustDeskModel_stops_7 lV_TrustDeskModel_230 b25 rfl (mj_enter (by decide) (Nat.le_of_ble_eq_true rfl) ?_) rfl (Nat.le_of_ble_eq_true rfl) (Nat.le_of_ble_eq_true rfl) (Nat.le_of_ble_eq_true rfl) (hst := rfl) (fun _ _ _ h => h)
  refine mv_aload_n d_TrustDeskModel_isWell_0 rfl rfl ?_
  obtain ⟨v27, q26⟩ := tm_atI I9 h_o0 (k := 19) rfl
  refine tr_getK q26 d_TrustDeskModel_isWell_1 f_TrustDeskModel_224_13 ?_
  have := R12.f (k := 19) q26 rfl
  have := (tm_rv q26).symm.trans z15
  have := tm_rv q26
  have := mz_hi v27
  refine mv_if_neZ (tgt := 11) (a := v27.toInt) d_TrustDeskModel_isWell_4 (by decide) rfl (fun b28 => ?_) (fun b28 => ?_)
  · refine mv_iconst (v := 0) d_TrustDeskModel_isWell_11 (by decide) ?_
    refine mv_iret d_TrustDeskModel_isWell_12 rfl (by decide) ?_
    refine mv_if_eq_t (tgt := 17) d_TrustDeskModel_stops_10 (by decide) (by decide) ?_
    refine mv_aload_n d_TrustDeskModel_stops_17 rfl rfl ?_
    obtain ⟨v30, q29⟩ := tm_atI I9 h_o0 (k := 20) rfl
    refine tr_getK q29 d_TrustDeskModel_stops_18 f_TrustDeskModel_227_13 ?_
    refine tr_putR (k := 21) I9 R12 h_o0 rfl ⟨_, rfl⟩ (fun _ h => by cases h) rfl (fun lo hi h => by cases h) (Or.inl (by decide)) d_TrustDeskModel_stops_21 p_TrustDeskModel_48_13 rfl rfl (fun M31 I32 q33 K34 R35 A36 V37 => ?_)
    have z38 := (V37 19 (by decide)).trans z15
    have z39 := (A36 5 (by decide) 44).trans z16
    have z40 := (A36 6 (by decide) 44).trans z17
    have K41 : rcp M0 M31 o0 4 18480 (420 * x1.toNatClampNeg) 0 := K18.same (((sA_f A36 (by decide)) : sA [4] _ _ _) 4 rfl)
    have K42 : rcp M0 M31 o0 7 880 (20 * x1.toNatClampNeg) 0 := K19.same (((sA_f A36 (by decide)) : sA [7] _ _ _) 7 rfl)
    have K43 : rcp M0 M31 o0 8 880 (20 * x1.toNatClampNeg) 0 := K20.same (((sA_f A36 (by decide)) : sA [8] _ _ _) 8 rfl)
    have K44 : rcp M0 M31 o0 10 880 (20 * x1.toNatClampNeg) 0 := K21.same (((sA_f A36 (by decide)) : sA [10] _ _ _) 10 rfl)
    have K45 : rcp M0 M31 o0 11 880 (20 * x1.toNatClampNeg) 0 := K22.same (((sA_f A36 (by decide)) : sA [11] _ _ _) 11 rfl)
    have K46 : rcp M0 M31 o0 12 880 (20 * x1.toNatClampNeg) 0 := K23.same (((sA_f A36 (by decide)) : sA [12] _ _ _) 12 rfl)
    have K47 : sA [4, 7, 8, 10, 11, 12] M0 M31 o0 := K24.trans (sA_f A36 (by decide))
    clear z16 z17
    refine mv_aload_n d_TrustDeskModel_stops_24 rfl rfl ?_
    obtain ⟨_, b48, -⟩ := I32.1 _ _ h_o0
    refine mv_callV (kc1 := 0) (ks1 := 0) (kc' := 0) (ks' := 0) (As := []) (st9 := [.ref o0]) d_TrustDeskModel_stops_25 lV_TrustDeskModel_230 b48 rfl (mj_enter (by decide) (Nat.le_of_ble_eq_true rfl) ?_) rfl (Nat.le_of_ble_eq_true rfl) (Nat.le_of_ble_eq_true rfl) (Nat.le_of_ble_eq_true rfl) (hst := rfl) (fun _ _ _ h => h)
    refine mv_aload_n d_TrustDeskModel_isWell_0 rfl rfl ?_
    refine tr_getK (k := 19) (K34 _ 13 19 _ rfl q26) d_TrustDeskModel_isWell_1 f_TrustDeskModel_224_13 ?_
    have := mz_hi v27
    refine mv_if_neZ (tgt := 11) (a := v27.toInt) d_TrustDeskModel_isWell_4 (by decide) rfl (fun b49 => ?_) (fun b49 => ?_)
    · refine mv_iconst (v := 0) d_TrustDeskModel_isWell_11 (by decide) ?_
      refine mv_iret d_TrustDeskModel_isWell_12 rfl (by decide) ?_
      refine mv_if_ne_f (tgt := 38) d_TrustDeskModel_stops_28 (by decide) (by decide) ?_
      refine mv_iconst (v := (-1)) d_TrustDeskModel_stops_31 (by decide) ?_
      refine mv_aload_n d_TrustDeskModel_stops_32 rfl rfl ?_
      refine tr_getK (k := 19) (K34 _ 13 19 _ rfl q26) d_TrustDeskModel_stops_33 f_TrustDeskModel_224_13 ?_
      refine mv_isub d_TrustDeskModel_stops_36 ?_
      exact mv_iret d_TrustDeskModel_stops_37 rfl (by first | rfl | decide) ⟨_, I32, _, rfl, R35, (fun _ => ⟨(by have := R35.1 15 _ _ rfl; have := R35.1 16 _ _ rfl; have := R35.1 19 _ _ rfl; omega), K47⟩), (fun h9 => by exfalso; have := R35.1 15 _ _ rfl; have := R35.1 16 _ _ rfl; have := R35.1 19 _ _ rfl; omega)⟩
    · refine mv_iconst (v := 1) d_TrustDeskModel_isWell_7 (by decide) ?_
      refine mv_goto (tgt := 12) d_TrustDeskModel_isWell_8 (by decide) ?_
      refine mv_iret d_TrustDeskModel_isWell_12 rfl (by decide) ?_
      refine mv_if_ne_t (tgt := 38) d_TrustDeskModel_stops_28 (by decide) (by decide) ?_
      refine mv_aload_n d_TrustDeskModel_stops_38 rfl rfl ?_
      obtain ⟨a51, q50, t_a51⟩ := tm_atR I32 h_o0 (k := 5) rfl
      refine tr_getK q50 d_TrustDeskModel_stops_39 f_TrustDeskModel_20_13 ?_
      refine mv_iload_n d_TrustDeskModel_stops_42 rfl rfl ?_
      refine mv_aload_n d_TrustDeskModel_stops_43 rfl rfl ?_
      refine tr_getK (k := 5) q50 d_TrustDeskModel_stops_44 f_TrustDeskModel_20_13 ?_
      refine mv_bipush (v := 44) d_TrustDeskModel_stops_47 (by decide) ?_
      refine tr_ialdR (o := o0) (k := 5) I32 q50 t_a51 (by decide) d_TrustDeskModel_stops_49 (by unfold vp_in; decide) (fun v52 e53 => ?_)
      have := R35.a (k := 5) rfl (44 : Int32).toNatClampNeg
      have : v52.toInt = ra M31 o0 5 44 := e53
      have : v52.toInt = _ := Eq.trans e53 z39
      refine tr_iastR (k := 5) I32 R35 (I32.up h_o0) q50 t_a51 (by decide) (by decide) (fun lo hi h => by cases h; have := R35.1 15 _ _ rfl; have := R35.1 16 _ _ rfl; have := R35.1 19 _ _ rfl; exact ⟨by show (0 : Int) ≤ v52.toInt; omega, by show v52.toInt ≤ (400 : Int); omega⟩) (Or.inl (by decide)) d_TrustDeskModel_stops_50 (vp_in_iff.mpr (by have := R35.1 15 _ _ rfl; have := R35.1 16 _ _ rfl; have := R35.1 19 _ _ rfl; omega)) (fun M54 I55 K56 R57 E58 A59 V60 => ?_)
      have z61 := (V60 19).trans z38
      have z62 := ((E58 44).trans (if_neg (by have := mz_nat9 (i := x1) (by have := R35.1 15 _ _ rfl; have := R35.1 16 _ _ rfl; have := R35.1 19 _ _ rfl; omega); omega))).trans z39
      have z63 := (A59 6 (by decide) rfl 44).trans z40
      have K64 : rcp M0 M54 o0 4 18480 (420 * x1.toNatClampNeg) 0 := K41.same (((sA_a A59 (by decide)) : sA [4] _ _ _) 4 rfl)
      have K65 : rcp M0 M54 o0 7 880 (20 * x1.toNatClampNeg) 0 := K42.same (((sA_a A59 (by decide)) : sA [7] _ _ _) 7 rfl)
      have K66 : rcp M0 M54 o0 8 880 (20 * x1.toNatClampNeg) 0 := K43.same (((sA_a A59 (by decide)) : sA [8] _ _ _) 8 rfl)
      have K67 : rcp M0 M54 o0 10 880 (20 * x1.toNatClampNeg) 0 := K44.same (((sA_a A59 (by decide)) : sA [10] _ _ _) 10 rfl)
      have K68 : rcp M0 M54 o0 11 880 (20 * x1.toNatClampNeg) 0 := K45.same (((sA_a A59 (by decide)) : sA [11] _ _ _) 11 rfl)
      have K69 : rcp M0 M54 o0 12 880 (20 * x1.toNatClampNeg) 0 := K46.same (((sA_a A59 (by decide)) : sA [12] _ _ _) 12 rfl)
      have K70 : sA [4, 7, 8, 10, 11, 12] M0 M54 o0 := K47.trans (sA_a A59 (by decide))
      clear z39 z40
      refine mv_aload_n d_TrustDeskModel_stops_51 rfl rfl ?_
      obtain ⟨a72, q71, t_a72⟩ := tm_atR I55 h_o0 (k := 6) rfl
      refine tr_getK q71 d_TrustDeskModel_stops_52 f_TrustDeskModel_23_13 ?_
      refine mv_iload_n d_TrustDeskModel_stops_55 rfl rfl ?_
      refine mv_aload_n d_TrustDeskModel_stops_56 rfl rfl ?_
      refine tr_getK (k := 6) q71 d_TrustDeskModel_stops_57 f_TrustDeskModel_23_13 ?_
      refine mv_bipush (v := 44) d_TrustDeskModel_stops_60 (by decide) ?_
      refine tr_ialdR (o := o0) (k := 6) I55 q71 t_a72 (by decide) d_TrustDeskModel_stops_62 (by unfold vp_in; decide) (fun v73 e74 => ?_)
      have := R57.a (k := 6) rfl (44 : Int32).toNatClampNeg
      have : v73.toInt = ra M54 o0 6 44 := e74
      have : v73.toInt = _ := Eq.trans e74 z63
      refine tr_iastR (k := 6) I55 R57 (I55.up h_o0) q71 t_a72 (by decide) (by decide) (fun lo hi h => by cases h; have := R57.1 15 _ _ rfl; have := R57.1 16 _ _ rfl; have := R57.1 19 _ _ rfl; exact ⟨by show (0 : Int) ≤ v73.toInt; omega, by show v73.toInt ≤ (20 : Int); omega⟩) (Or.inl (by decide)) d_TrustDeskModel_stops_63 (vp_in_iff.mpr (by have := R57.1 15 _ _ rfl; have := R57.1 16 _ _ rfl; have := R57.1 19 _ _ rfl; omega)) (fun M75 I76 K77 R78 E79 A80 V81 => ?_)
      have z82 := (V81 19).trans z61
      have z83 := (A80 5 (by decide) rfl 44).trans z62
      have z84 := ((E79 44).trans (if_neg (by have := mz_nat9 (i := x1) (by have := R57.1 15 _ _ rfl; have := R57.1 16 _ _ rfl; have := R57.1 19 _ _ rfl; omega); omega))).trans z63
      have h85 : x1.toNatClampNeg = x1.toNatClampNeg := by have := mz_nat9 (i := x1) (by have := R57.1 15 _ _ rfl; have := R57.1 16 _ _ rfl; have := R57.1 19 _ _ rfl; omega); have := R57.1 15 _ _ rfl; have := R57.1 16 _ _ rfl; have := R57.1 19 _ _ rfl; omega
      have z86 : ra M75 o0 6 x1.toNatClampNeg = v73.toInt := (E79 _).trans (if_pos h85)
      have K87 : rcp M0 M75 o0 4 18480 (420 * x1.toNatClampNeg) 0 := K64.same (((sA_a A80 (by decide)) : sA [4] _ _ _) 4 rfl)
      have K88 : rcp M0 M75 o0 7 880 (20 * x1.toNatClampNeg) 0 := K65.same (((sA_a A80 (by decide)) : sA [7] _ _ _) 7 rfl)
      have K89 : rcp M0 M75 o0 8 880 (20 * x1.toNatClampNeg) 0 := K66.same (((sA_a A80 (by decide)) : sA [8] _ _ _) 8 rfl)
      have K90 : rcp M0 M75 o0 10 880 (20 * x1.toNatClampNeg) 0 := K67.same (((sA_a A80 (by decide)) : sA [10] _ _ _) 10 rfl)
      have K91 : rcp M0 M75 o0 11 880 (20 * x1.toNatClampNeg) 0 := K68.same (((sA_a A80 (by decide)) : sA [11] _ _ _) 11 rfl)
      have K92 : rcp M0 M75 o0 12 880 (20 * x1.toNatClampNeg) 0 := K69.same (((sA_a A80 (by decide)) : sA [12] _ _ _) 12 rfl)
      have K93 : sA [4, 7, 8, 10, 11, 12] M0 M75 o0 := K70.trans (sA_a A80 (by decide))
      clear z62 z63
      refine mv_iconst (v := 0) d_TrustDeskModel_stops_64 (by decide) ?_
      refine mv_istore_n (lv' := [(2, .int 0), (0, .ref o0), (1, .int x1)]) d_TrustDeskModel_stops_65 rfl (by decide) rfl ?_
      have L66_94 : ∀ (k : Nat) (i2_94 : Int32) (T_94 : tm_H) (M_94 : mj_M) (n_94 : Nat), tm_I tm_FT (tm_in w_TrustDeskModel_stops_x) x9 T0 M0 n0 T_94 M_94 n_94 → T_94 o0 = some (0, 13, 0) → 0 ≤ i2_94.toInt → rv M_94 o0 19 = rv M0 o0 19 → ra M_94 o0 5 44 = ra M0 o0 5 44 → ra M_94 o0 6 44 = ra M0 o0 6 44 → ra M_94 o0 6 x1.toNatClampNeg = ra M0 o0 6 44 → i2_94.toInt ≤ ra M0 o0 5 44 → (rI M_94 o0) → (rcp M0 M_94 o0 4 18480 (420 * x1.toNatClampNeg) i2_94.toInt) → (rcp M0 M_94 o0 7 880 (20 * x1.toNatClampNeg) 0) → (rcp M0 M_94 o0 8 880 (20 * x1.toNatClampNeg) 0) → (rcp M0 M_94 o0 10 880 (20 * x1.toNatClampNeg) 0) → (rcp M0 M_94 o0 11 880 (20 * x1.toNatClampNeg) 0) → (rcp M0 M_94 o0 12 880 (20 * x1.toNatClampNeg) 0) → 2147483647 - i2_94.toInt < (k : Int) → mj_V g l kY_TrustDeskModel_stops (d + 1) 66 [(2, .int i2_94), (0, .ref o0), (1, .int x1)] [] M_94 n_94 0 0 (tm_Q tm_FT (tm_in w_TrustDeskModel_stops_x) x9 T0 M0 n0 (fun r _ M => ∃ v : Int32, r = some (.int v) ∧ rI M o0 ∧ (rv M0 o0 19 ≠ 0 → v.toInt < 0 ∧ sA [4, 7, 8, 10, 11, 12] M0 M o0) ∧ (rv M0 o0 19 = 0 → v.toInt = 0 ∧ rcp M0 M o0 4 18480 (420 * x1.toNatClampNeg) (ra M0 o0 5 44) ∧ rcp M0 M o0 7 880 (20 * x1.toNatClampNeg) (ra M0 o0 6 44) ∧ rcp M0 M o0 8 880 (20 * x1.toNatClampNeg) (ra M0 o0 6 44) ∧ rcp M0 M o0 10 880 (20 * x1.toNatClampNeg) (ra M0 o0 6 44) ∧ rcp M0 M o0 11 880 (20 * x1.toNatClampNeg) (ra M0 o0 6 44) ∧ rcp M0 M o0 12 880 (20 * x1.toNatClampNeg) (ra M0 o0 6 44) ∧ ra M o0 6 x1.toNatClampNeg = ra M0 o0 6 44))) := by
        intro k94
        induction k94 with
        | zero =>
          intro i2_94 T_94 M_94 n_94 I_94 h_q0_94 iv0_94 iv1_94 iv2_94 iv3_94 iv4_94 iv5_94 kKR_94 kKQ4_94 kKQ7_94 kKQ8_94 kKQ10_94 kKQ11_94 kKQ12_94 hk94
          have := mz_hi i2_94
          have := kKR_94.1 15 _ _ rfl
          have := kKR_94.1 16 _ _ rfl
          have := kKR_94.1 19 _ _ rfl
          omega
        | succ k94 ih94 =>
          intro i2_94 T_94 M_94 n_94 I_94 h_q0_94 iv0_94 iv1_94 iv2_94 iv3_94 iv4_94 iv5_94 kKR_94 kKQ4_94 kKQ7_94 kKQ8_94 kKQ10_94 kKQ11_94 kKQ12_94 hk94
          refine mv_iload_n d_TrustDeskModel_stops_66 rfl rfl ?_
          refine mv_aload_n d_TrustDeskModel_stops_67 rfl rfl ?_
          obtain ⟨a96, q95, t_a96⟩ := tm_atR I_94 h_q0_94 (k := 5) rfl
          refine tr_getK q95 d_TrustDeskModel_stops_68 f_TrustDeskModel_20_13 ?_
          refine mv_bipush (v := 44) d_TrustDeskModel_stops_71 (by decide) ?_
          refine tr_ialdR (o := o0) (k := 5) I_94 q95 t_a96 (by decide) d_TrustDeskModel_stops_73 (by unfold vp_in; decide) (fun v97 e98 => ?_)
          have := kKR_94.a (k := 5) rfl (44 : Int32).toNatClampNeg
          have : v97.toInt = ra M_94 o0 5 44 := e98
          have := mz_hi i2_94
          have := mz_hi v97
          refine mv_icmp_geZ (tgt := 105) (a := i2_94.toInt) (b := v97.toInt) d_TrustDeskModel_stops_74 (by decide) rfl rfl (fun b99 => ?_) (fun b99 => ?_)
          · refine mv_iconst (v := 0) d_TrustDeskModel_stops_105 (by decide) ?_
            refine mv_istore_n (lv' := [(2, .int 0), (0, .ref o0), (1, .int x1)]) d_TrustDeskModel_stops_106 rfl (by decide) rfl ?_
            have L107_100 : ∀ (k : Nat) (i2_100 : Int32) (T_100 : tm_H) (M_100 : mj_M) (n_100 : Nat), tm_I tm_FT (tm_in w_TrustDeskModel_stops_x) x9 T0 M0 n0 T_100 M_100 n_100 → T_100 o0 = some (0, 13, 0) → 0 ≤ i2_100.toInt → rv M_100 o0 19 = rv M0 o0 19 → ra M_100 o0 5 44 = ra M0 o0 5 44 → ra M_100 o0 6 44 = ra M0 o0 6 44 → ra M_100 o0 6 x1.toNatClampNeg = ra M0 o0 6 44 → i2_100.toInt ≤ ra M0 o0 6 44 → (rI M_100 o0) → (rcp M0 M_100 o0 4 18480 (420 * x1.toNatClampNeg) i2_94.toInt) → (rcp M0 M_100 o0 7 880 (20 * x1.toNatClampNeg) i2_100.toInt) → (rcp M0 M_100 o0 8 880 (20 * x1.toNatClampNeg) i2_100.toInt) → (rcp M0 M_100 o0 10 880 (20 * x1.toNatClampNeg) i2_100.toInt) → (rcp M0 M_100 o0 11 880 (20 * x1.toNatClampNeg) i2_100.toInt) → (rcp M0 M_100 o0 12 880 (20 * x1.toNatClampNeg) i2_100.toInt) → 2147483647 - i2_100.toInt < (k : Int) → mj_V g l kY_TrustDeskModel_stops (d + 1) 107 [(2, .int i2_100), (0, .ref o0), (1, .int x1)] [] M_100 n_100 0 0 (tm_Q tm_FT (tm_in w_TrustDeskModel_stops_x) x9 T0 M0 n0 (fun r _ M => ∃ v : Int32, r = some (.int v) ∧ rI M o0 ∧ (rv M0 o0 19 ≠ 0 → v.toInt < 0 ∧ sA [4, 7, 8, 10, 11, 12] M0 M o0) ∧ (rv M0 o0 19 = 0 → v.toInt = 0 ∧ rcp M0 M o0 4 18480 (420 * x1.toNatClampNeg) (ra M0 o0 5 44) ∧ rcp M0 M o0 7 880 (20 * x1.toNatClampNeg) (ra M0 o0 6 44) ∧ rcp M0 M o0 8 880 (20 * x1.toNatClampNeg) (ra M0 o0 6 44) ∧ rcp M0 M o0 10 880 (20 * x1.toNatClampNeg) (ra M0 o0 6 44) ∧ rcp M0 M o0 11 880 (20 * x1.toNatClampNeg) (ra M0 o0 6 44) ∧ rcp M0 M o0 12 880 (20 * x1.toNatClampNeg) (ra M0 o0 6 44) ∧ ra M o0 6 x1.toNatClampNeg = ra M0 o0 6 44))) := by
              intro k100
              induction k100 with
              | zero =>
                intro i2_100 T_100 M_100 n_100 I_100 h_q0_100 iv0_100 iv1_100 iv2_100 iv3_100 iv4_100 iv5_100 kKR_100 kKQ4_100 kKQ7_100 kKQ8_100 kKQ10_100 kKQ11_100 kKQ12_100 hk100
                have := mz_hi i2_100
                have := kKR_100.1 15 _ _ rfl
                have := kKR_100.1 16 _ _ rfl
                have := kKR_100.1 19 _ _ rfl
                omega
              | succ k100 ih100 =>
                intro i2_100 T_100 M_100 n_100 I_100 h_q0_100 iv0_100 iv1_100 iv2_100 iv3_100 iv4_100 iv5_100 kKR_100 kKQ4_100 kKQ7_100 kKQ8_100 kKQ10_100 kKQ11_100 kKQ12_100 hk100
                refine mv_iload_n d_TrustDeskModel_stops_107 rfl rfl ?_
                refine mv_aload_n d_TrustDeskModel_stops_108 rfl rfl ?_
                obtain ⟨a102, q101, t_a102⟩ := tm_atR I_100 h_q0_100 (k := 6) rfl
                refine tr_getK q101 d_TrustDeskModel_stops_109 f_TrustDeskModel_23_13 ?_
                refine mv_bipush (v := 44) d_TrustDeskModel_stops_112 (by decide) ?_
                refine tr_ialdR (o := o0) (k := 6) I_100 q101 t_a102 (by decide) d_TrustDeskModel_stops_114 (by unfold vp_in; decide) (fun v103 e104 => ?_)
                have := kKR_100.a (k := 6) rfl (44 : Int32).toNatClampNeg
                have : v103.toInt = ra M_100 o0 6 44 := e104
                have := mz_hi i2_100
                have := mz_hi v103
                refine mv_icmp_geZ (tgt := 216) (a := i2_100.toInt) (b := v103.toInt) d_TrustDeskModel_stops_115 (by decide) rfl rfl (fun b105 => ?_) (fun b105 => ?_)
                · refine mv_iconst (v := 0) d_TrustDeskModel_stops_216 (by decide) ?_
                  exact mv_iret d_TrustDeskModel_stops_217 rfl (by first | rfl | decide) ⟨_, I_100, _, rfl, kKR_100, (fun h9 => by exfalso; have := kKR_100.1 15 _ _ rfl; have := kKR_100.1 16 _ _ rfl; have := kKR_100.1 19 _ _ rfl; omega), (fun _ => ⟨by decide, kKQ4_100.cast (by have := kKR_100.1 15 _ _ rfl; have := kKR_100.1 16 _ _ rfl; have := kKR_100.1 19 _ _ rfl; omega), kKQ7_100.cast (by have := kKR_100.1 15 _ _ rfl; have := kKR_100.1 16 _ _ rfl; have := kKR_100.1 19 _ _ rfl; omega), kKQ8_100.cast (by have := kKR_100.1 15 _ _ rfl; have := kKR_100.1 16 _ _ rfl; have := kKR_100.1 19 _ _ rfl; omega), kKQ10_100.cast (by have := kKR_100.1 15 _ _ rfl; have := kKR_100.1 16 _ _ rfl; have := kKR_100.1 19 _ _ rfl; omega), kKQ11_100.cast (by have := kKR_100.1 15 _ _ rfl; have := kKR_100.1 16 _ _ rfl; have := kKR_100.1 19 _ _ rfl; omega), kKQ12_100.cast (by have := kKR_100.1 15 _ _ rfl; have := kKR_100.1 16 _ _ rfl; have := kKR_100.1 19 _ _ rfl; omega), (by have := kKR_100.1 15 _ _ rfl; have := kKR_100.1 16 _ _ rfl; have := kKR_100.1 19 _ _ rfl; omega)⟩)⟩
                · refine mv_sipush (v := 880) d_TrustDeskModel_stops_118 (by decide) ?_
                  refine mv_iload_n d_TrustDeskModel_stops_121 rfl rfl ?_
                  refine mv_iadd d_TrustDeskModel_stops_122 ?_
                  refine mv_istore_n (lv' := [(3, .int (880 + i2_100)), (2, .int i2_100), (0, .ref o0), (1, .int x1)]) d_TrustDeskModel_stops_123 rfl (by decide) rfl ?_
                  refine mv_bipush (v := 20) d_TrustDeskModel_stops_124 (by decide) ?_
                  refine mv_iload_n d_TrustDeskModel_stops_126 rfl rfl ?_
                  refine mv_imul d_TrustDeskModel_stops_127 ?_
                  refine mv_iload_n d_TrustDeskModel_stops_128 rfl rfl ?_
                  refine mv_iadd d_TrustDeskModel_stops_129 ?_
                  refine mv_istore (lv' := [(4, .int ((20 * x1) + i2_100)), (3, .int (880 + i2_100)), (2, .int i2_100), (0, .ref o0), (1, .int x1)]) d_TrustDeskModel_stops_130 (by decide) rfl ?_
                  refine mv_aload_n d_TrustDeskModel_stops_132 rfl rfl ?_
                  obtain ⟨a107, q106, t_a107⟩ := tm_atR I_100 h_q0_100 (k := 7) rfl
                  refine tr_getK q106 d_TrustDeskModel_stops_133 f_TrustDeskModel_26_13 ?_
                  refine mv_iload d_TrustDeskModel_stops_136 rfl ?_
                  refine mv_aload_n d_TrustDeskModel_stops_138 rfl rfl ?_
                  refine tr_getK (k := 7) q106 d_TrustDeskModel_stops_139 f_TrustDeskModel_26_13 ?_
                  refine mv_iload_n d_TrustDeskModel_stops_142 rfl rfl ?_
                  have b108 : (880 + i2_100 : Int32).toInt = (880 + i2_100.toInt) := mz_add2 (by decide) rfl (by have := kKR_100.1 15 _ _ rfl; have := kKR_100.1 16 _ _ rfl; have := kKR_100.1 19 _ _ rfl; omega) (by have := kKR_100.1 15 _ _ rfl; have := kKR_100.1 16 _ _ rfl; have := kKR_100.1 19 _ _ rfl; omega)
                  refine tr_ialdR (o := o0) (k := 7) I_100 q106 t_a107 (by decide) d_TrustDeskModel_stops_143 (vp_in_iff.mpr (by have := kKR_100.1 15 _ _ rfl; have := kKR_100.1 16 _ _ rfl; have := kKR_100.1 19 _ _ rfl; omega)) (fun v109 e110 => ?_)
                  have b111 : (20 * x1 : Int32).toInt = (20 * x1.toInt) := mz_mul2 (by decide) rfl (by have := kKR_100.1 15 _ _ rfl; have := kKR_100.1 16 _ _ rfl; have := kKR_100.1 19 _ _ rfl; omega) (by have := kKR_100.1 15 _ _ rfl; have := kKR_100.1 16 _ _ rfl; have := kKR_100.1 19 _ _ rfl; omega)
                  have b112 : ((20 * x1) + i2_100 : Int32).toInt = ((20 * x1.toInt) + i2_100.toInt) := mz_add2 b111 rfl (by have := kKR_100.1 15 _ _ rfl; have := kKR_100.1 16 _ _ rfl; have := kKR_100.1 19 _ _ rfl; omega) (by have := kKR_100.1 15 _ _ rfl; have := kKR_100.1 16 _ _ rfl; have := kKR_100.1 19 _ _ rfl; omega)
                  refine tr_iastR (k := 7) I_100 kKR_100 (I_100.up h_o0) q106 t_a107 (by decide) (by decide) (fun lo hi h => by cases h) (Or.inl (by decide)) d_TrustDeskModel_stops_144 (vp_in_iff.mpr (by have := kKR_100.1 15 _ _ rfl; have := kKR_100.1 16 _ _ rfl; have := kKR_100.1 19 _ _ rfl; omega)) (fun M113 I114 K115 R116 E117 A118 V119 => ?_)
                  have z120 := (V119 19)
                  have z121 := (A118 5 (by decide) rfl 44)
                  have z122 := (A118 6 (by decide) rfl 44)
                  have z123 := (A118 6 (by decide) rfl x1.toNatClampNeg)
                  have K124 : rcp M0 M113 o0 4 18480 (420 * x1.toNatClampNeg) i2_94.toInt := kKQ4_100.same (((sA_a A118 (by decide)) : sA [4] _ _ _) 4 rfl)
                  have K125 : rcp M0 M113 o0 7 880 (20 * x1.toNatClampNeg) (i2_100.toInt + 1) := kKQ7_100.st E117 (by have := kKR_100.1 15 _ _ rfl; have := kKR_100.1 16 _ _ rfl; have := kKR_100.1 19 _ _ rfl; omega) (by have := mz_nat9 (i := ((20 * x1) + i2_100)) (by have := kKR_100.1 15 _ _ rfl; have := kKR_100.1 16 _ _ rfl; have := kKR_100.1 19 _ _ rfl; omega); have := mz_nat9 (i := x1) (by have := kKR_100.1 15 _ _ rfl; have := kKR_100.1 16 _ _ rfl; have := kKR_100.1 19 _ _ rfl; omega); have := kKR_100.1 15 _ _ rfl; have := kKR_100.1 16 _ _ rfl; have := kKR_100.1 19 _ _ rfl; omega) e110 (by have := mz_nat9 (i := (880 + i2_100)) (by have := kKR_100.1 15 _ _ rfl; have := kKR_100.1 16 _ _ rfl; have := kKR_100.1 19 _ _ rfl; omega); have := kKR_100.1 15 _ _ rfl; have := kKR_100.1 16 _ _ rfl; have := kKR_100.1 19 _ _ rfl; omega) (by have := mz_nat9 (i := x1) (by have := kKR_100.1 15 _ _ rfl; have := kKR_100.1 16 _ _ rfl; have := kKR_100.1 19 _ _ rfl; omega); have := kKR_100.1 15 _ _ rfl; have := kKR_100.1 16 _ _ rfl; have := kKR_100.1 19 _ _ rfl; omega) rfl
                  have K126 : rcp M0 M113 o0 8 880 (20 * x1.toNatClampNeg) i2_100.toInt := kKQ8_100.same (((sA_a A118 (by decide)) : sA [8] _ _ _) 8 rfl)
                  have K127 : rcp M0 M113 o0 10 880 (20 * x1.toNatClampNeg) i2_100.toInt := kKQ10_100.same (((sA_a A118 (by decide)) : sA [10] _ _ _) 10 rfl)
                  have K128 : rcp M0 M113 o0 11 880 (20 * x1.toNatClampNeg) i2_100.toInt := kKQ11_100.same (((sA_a A118 (by decide)) : sA [11] _ _ _) 11 rfl)
                  have K129 : rcp M0 M113 o0 12 880 (20 * x1.toNatClampNeg) i2_100.toInt := kKQ12_100.same (((sA_a A118 (by decide)) : sA [12] _ _ _) 12 rfl)
                  refine mv_aload_n d_TrustDeskModel_stops_145 rfl rfl ?_
                  obtain ⟨a131, q130, t_a131⟩ := tm_atR I114 h_q0_100 (k := 8) rfl
                  refine tr_getK q130 d_TrustDeskModel_stops_146 f_TrustDeskModel_29_13 ?_
                  refine mv_iload d_TrustDeskModel_stops_149 rfl ?_
                  refine mv_aload_n d_TrustDeskModel_stops_151 rfl rfl ?_
                  refine tr_getK (k := 8) q130 d_TrustDeskModel_stops_152 f_TrustDeskModel_29_13 ?_
                  refine mv_iload_n d_TrustDeskModel_stops_155 rfl rfl ?_
                  have b132 : (880 + i2_100 : Int32).toInt = (880 + i2_100.toInt) := mz_add2 (by decide) rfl (by have := R116.1 15 _ _ rfl; have := R116.1 16 _ _ rfl; have := R116.1 19 _ _ rfl; omega) (by have := R116.1 15 _ _ rfl; have := R116.1 16 _ _ rfl; have := R116.1 19 _ _ rfl; omega)
                  refine tr_ialdR (o := o0) (k := 8) I114 q130 t_a131 (by decide) d_TrustDeskModel_stops_156 (vp_in_iff.mpr (by have := R116.1 15 _ _ rfl; have := R116.1 16 _ _ rfl; have := R116.1 19 _ _ rfl; omega)) (fun v133 e134 => ?_)
                  have := R116.a (k := 8) rfl ((880 + i2_100) : Int32).toNatClampNeg
                  have b135 : (20 * x1 : Int32).toInt = (20 * x1.toInt) := mz_mul2 (by decide) rfl (by have := R116.1 15 _ _ rfl; have := R116.1 16 _ _ rfl; have := R116.1 19 _ _ rfl; omega) (by have := R116.1 15 _ _ rfl; have := R116.1 16 _ _ rfl; have := R116.1 19 _ _ rfl; omega)
                  have b136 : ((20 * x1) + i2_100 : Int32).toInt = ((20 * x1.toInt) + i2_100.toInt) := mz_add2 b135 rfl (by have := R116.1 15 _ _ rfl; have := R116.1 16 _ _ rfl; have := R116.1 19 _ _ rfl; omega) (by have := R116.1 15 _ _ rfl; have := R116.1 16 _ _ rfl; have := R116.1 19 _ _ rfl; omega)
                  refine tr_iastR (k := 8) I114 R116 (I114.up h_o0) q130 t_a131 (by decide) (by decide) (fun lo hi h => by cases h; have := R116.1 15 _ _ rfl; have := R116.1 16 _ _ rfl; have := R116.1 19 _ _ rfl; exact ⟨by show ((-1) : Int) ≤ v133.toInt; omega, by show v133.toInt ≤ (720 : Int); omega⟩) (Or.inl (by decide)) d_TrustDeskModel_stops_157 (vp_in_iff.mpr (by have := R116.1 15 _ _ rfl; have := R116.1 16 _ _ rfl; have := R116.1 19 _ _ rfl; omega)) (fun M137 I138 K139 R140 E141 A142 V143 => ?_)
                  have z144 := (V143 19).trans z120
                  have z145 := (A142 5 (by decide) rfl 44).trans z121
                  have z146 := (A142 6 (by decide) rfl 44).trans z122
                  have z147 := (A142 6 (by decide) rfl x1.toNatClampNeg).trans z123
                  have K148 : rcp M0 M137 o0 4 18480 (420 * x1.toNatClampNeg) i2_94.toInt := K124.same (((sA_a A142 (by decide)) : sA [4] _ _ _) 4 rfl)
                  have K149 : rcp M0 M137 o0 7 880 (20 * x1.toNatClampNeg) (i2_100.toInt + 1) := K125.same (((sA_a A142 (by decide)) : sA [7] _ _ _) 7 rfl)
                  have K150 : rcp M0 M137 o0 8 880 (20 * x1.toNatClampNeg) (i2_100.toInt + 1) := K126.st E141 (by have := R116.1 15 _ _ rfl; have := R116.1 16 _ _ rfl; have := R116.1 19 _ _ rfl; omega) (by have := mz_nat9 (i := ((20 * x1) + i2_100)) (by have := R116.1 15 _ _ rfl; have := R116.1 16 _ _ rfl; have := R116.1 19 _ _ rfl; omega); have := mz_nat9 (i := x1) (by have := R116.1 15 _ _ rfl; have := R116.1 16 _ _ rfl; have := R116.1 19 _ _ rfl; omega); have := R116.1 15 _ _ rfl; have := R116.1 16 _ _ rfl; have := R116.1 19 _ _ rfl; omega) e134 (by have := mz_nat9 (i := (880 + i2_100)) (by have := R116.1 15 _ _ rfl; have := R116.1 16 _ _ rfl; have := R116.1 19 _ _ rfl; omega); have := R116.1 15 _ _ rfl; have := R116.1 16 _ _ rfl; have := R116.1 19 _ _ rfl; omega) (by have := mz_nat9 (i := x1) (by have := R116.1 15 _ _ rfl; have := R116.1 16 _ _ rfl; have := R116.1 19 _ _ rfl; omega); have := R116.1 15 _ _ rfl; have := R116.1 16 _ _ rfl; have := R116.1 19 _ _ rfl; omega) rfl
                  have K151 : rcp M0 M137 o0 10 880 (20 * x1.toNatClampNeg) i2_100.toInt := K127.same (((sA_a A142 (by decide)) : sA [10] _ _ _) 10 rfl)
                  have K152 : rcp M0 M137 o0 11 880 (20 * x1.toNatClampNeg) i2_100.toInt := K128.same (((sA_a A142 (by decide)) : sA [11] _ _ _) 11 rfl)
                  have K153 : rcp M0 M137 o0 12 880 (20 * x1.toNatClampNeg) i2_100.toInt := K129.same (((sA_a A142 (by decide)) : sA [12] _ _ _) 12 rfl)
                  clear z121 z122 z123
                  refine mv_aload_n d_TrustDeskModel_stops_158 rfl rfl ?_
                  obtain ⟨a155, q154, t_a155⟩ := tm_atR I138 h_q0_100 (k := 9) rfl
                  refine tr_getK q154 d_TrustDeskModel_stops_159 f_TrustDeskModel_32_13 ?_
                  refine mv_iload d_TrustDeskModel_stops_162 rfl ?_
                  refine mv_aload_n d_TrustDeskModel_stops_164 rfl rfl ?_
                  refine tr_getK (k := 9) q154 d_TrustDeskModel_stops_165 f_TrustDeskModel_32_13 ?_
                  refine mv_iload_n d_TrustDeskModel_stops_168 rfl rfl ?_
                  have b156 : (880 + i2_100 : Int32).toInt = (880 + i2_100.toInt) := mz_add2 (by decide) rfl (by have := R140.1 15 _ _ rfl; have := R140.1 16 _ _ rfl; have := R140.1 19 _ _ rfl; omega) (by have := R140.1 15 _ _ rfl; have := R140.1 16 _ _ rfl; have := R140.1 19 _ _ rfl; omega)
                  refine tr_ialdR (o := o0) (k := 9) I138 q154 t_a155 (by decide) d_TrustDeskModel_stops_169 (vp_in_iff.mpr (by have := R140.1 15 _ _ rfl; have := R140.1 16 _ _ rfl; have := R140.1 19 _ _ rfl; omega)) (fun v157 e158 => ?_)
                  have b159 : (20 * x1 : Int32).toInt = (20 * x1.toInt) := mz_mul2 (by decide) rfl (by have := R140.1 15 _ _ rfl; have := R140.1 16 _ _ rfl; have := R140.1 19 _ _ rfl; omega) (by have := R140.1 15 _ _ rfl; have := R140.1 16 _ _ rfl; have := R140.1 19 _ _ rfl; omega)
                  have b160 : ((20 * x1) + i2_100 : Int32).toInt = ((20 * x1.toInt) + i2_100.toInt) := mz_add2 b159 rfl (by have := R140.1 15 _ _ rfl; have := R140.1 16 _ _ rfl; have := R140.1 19 _ _ rfl; omega) (by have := R140.1 15 _ _ rfl; have := R140.1 16 _ _ rfl; have := R140.1 19 _ _ rfl; omega)
                  refine tr_iastR (k := 9) I138 R140 (I138.up h_o0) q154 t_a155 (by decide) (by decide) (fun lo hi h => by cases h) (Or.inl (by decide)) d_TrustDeskModel_stops_170 (vp_in_iff.mpr (by have := R140.1 15 _ _ rfl; have := R140.1 16 _ _ rfl; have := R140.1 19 _ _ rfl; omega)) (fun M161 I162 K163 R164 E165 A166 V167 => ?_)
                  have z168 := (V167 19).trans z144
                  have z169 := (A166 5 (by decide) rfl 44).trans z145
                  have z170 := (A166 6 (by decide) rfl 44).trans z146
                  have z171 := (A166 6 (by decide) rfl x1.toNatClampNeg).trans z147
                  have K172 : rcp M0 M161 o0 4 18480 (420 * x1.toNatClampNeg) i2_94.toInt := K148.same (((sA_a A166 (by decide)) : sA [4] _ _ _) 4 rfl)
                  have K173 : rcp M0 M161 o0 7 880 (20 * x1.toNatClampNeg) (i2_100.toInt + 1) := K149.same (((sA_a A166 (by decide)) : sA [7] _ _ _) 7 rfl)
                  have K174 : rcp M0 M161 o0 8 880 (20 * x1.toNatClampNeg) (i2_100.toInt + 1) := K150.same (((sA_a A166 (by decide)) : sA [8] _ _ _) 8 rfl)
                  have K175 : rcp M0 M161 o0 10 880 (20 * x1.toNatClampNeg) i2_100.toInt := K151.same (((sA_a A166 (by decide)) : sA [10] _ _ _) 10 rfl)
                  have K176 : rcp M0 M161 o0 11 880 (20 * x1.toNatClampNeg) i2_100.toInt := K152.same (((sA_a A166 (by decide)) : sA [11] _ _ _) 11 rfl)
                  have K177 : rcp M0 M161 o0 12 880 (20 * x1.toNatClampNeg) i2_100.toInt := K153.same (((sA_a A166 (by decide)) : sA [12] _ _ _) 12 rfl)
                  clear z145 z146 z147
                  refine mv_aload_n d_TrustDeskModel_stops_171 rfl rfl ?_
                  obtain ⟨a179, q178, t_a179⟩ := tm_atR I162 h_q0_100 (k := 10) rfl
                  refine tr_getK q178 d_TrustDeskModel_stops_172 f_TrustDeskModel_35_13 ?_
                  refine mv_iload d_TrustDeskModel_stops_175 rfl ?_
                  refine mv_aload_n d_TrustDeskModel_stops_177 rfl rfl ?_
                  refine tr_getK (k := 10) q178 d_TrustDeskModel_stops_178 f_TrustDeskModel_35_13 ?_
                  refine mv_iload_n d_TrustDeskModel_stops_181 rfl rfl ?_
                  have b180 : (880 + i2_100 : Int32).toInt = (880 + i2_100.toInt) := mz_add2 (by decide) rfl (by have := R164.1 15 _ _ rfl; have := R164.1 16 _ _ rfl; have := R164.1 19 _ _ rfl; omega) (by have := R164.1 15 _ _ rfl; have := R164.1 16 _ _ rfl; have := R164.1 19 _ _ rfl; omega)
                  refine tr_ialdR (o := o0) (k := 10) I162 q178 t_a179 (by decide) d_TrustDeskModel_stops_182 (vp_in_iff.mpr (by have := R164.1 15 _ _ rfl; have := R164.1 16 _ _ rfl; have := R164.1 19 _ _ rfl; omega)) (fun v181 e182 => ?_)
                  have := R164.a (k := 10) rfl ((880 + i2_100) : Int32).toNatClampNeg
                  have b183 : (20 * x1 : Int32).toInt = (20 * x1.toInt) := mz_mul2 (by decide) rfl (by have := R164.1 15 _ _ rfl; have := R164.1 16 _ _ rfl; have := R164.1 19 _ _ rfl; omega) (by have := R164.1 15 _ _ rfl; have := R164.1 16 _ _ rfl; have := R164.1 19 _ _ rfl; omega)
                  have b184 : ((20 * x1) + i2_100 : Int32).toInt = ((20 * x1.toInt) + i2_100.toInt) := mz_add2 b183 rfl (by have := R164.1 15 _ _ rfl; have := R164.1 16 _ _ rfl; have := R164.1 19 _ _ rfl; omega) (by have := R164.1 15 _ _ rfl; have := R164.1 16 _ _ rfl; have := R164.1 19 _ _ rfl; omega)
                  refine tr_iastR (k := 10) I162 R164 (I162.up h_o0) q178 t_a179 (by decide) (by decide) (fun lo hi h => by cases h; have := R164.1 15 _ _ rfl; have := R164.1 16 _ _ rfl; have := R164.1 19 _ _ rfl; exact ⟨by show (0 : Int) ≤ v181.toInt; omega, by show v181.toInt ≤ (400 : Int); omega⟩) (Or.inl (by decide)) d_TrustDeskModel_stops_183 (vp_in_iff.mpr (by have := R164.1 15 _ _ rfl; have := R164.1 16 _ _ rfl; have := R164.1 19 _ _ rfl; omega)) (fun M185 I186 K187 R188 E189 A190 V191 => ?_)
                  have z192 := (V191 19).trans z168
                  have z193 := (A190 5 (by decide) rfl 44).trans z169
                  have z194 := (A190 6 (by decide) rfl 44).trans z170
                  have z195 := (A190 6 (by decide) rfl x1.toNatClampNeg).trans z171
                  have K196 : rcp M0 M185 o0 4 18480 (420 * x1.toNatClampNeg) i2_94.toInt := K172.same (((sA_a A190 (by decide)) : sA [4] _ _ _) 4 rfl)
                  have K197 : rcp M0 M185 o0 7 880 (20 * x1.toNatClampNeg) (i2_100.toInt + 1) := K173.same (((sA_a A190 (by decide)) : sA [7] _ _ _) 7 rfl)
                  have K198 : rcp M0 M185 o0 8 880 (20 * x1.toNatClampNeg) (i2_100.toInt + 1) := K174.same (((sA_a A190 (by decide)) : sA [8] _ _ _) 8 rfl)
                  have K199 : rcp M0 M185 o0 10 880 (20 * x1.toNatClampNeg) (i2_100.toInt + 1) := K175.st E189 (by have := R164.1 15 _ _ rfl; have := R164.1 16 _ _ rfl; have := R164.1 19 _ _ rfl; omega) (by have := mz_nat9 (i := ((20 * x1) + i2_100)) (by have := R164.1 15 _ _ rfl; have := R164.1 16 _ _ rfl; have := R164.1 19 _ _ rfl; omega); have := mz_nat9 (i := x1) (by have := R164.1 15 _ _ rfl; have := R164.1 16 _ _ rfl; have := R164.1 19 _ _ rfl; omega); have := R164.1 15 _ _ rfl; have := R164.1 16 _ _ rfl; have := R164.1 19 _ _ rfl; omega) e182 (by have := mz_nat9 (i := (880 + i2_100)) (by have := R164.1 15 _ _ rfl; have := R164.1 16 _ _ rfl; have := R164.1 19 _ _ rfl; omega); have := R164.1 15 _ _ rfl; have := R164.1 16 _ _ rfl; have := R164.1 19 _ _ rfl; omega) (by have := mz_nat9 (i := x1) (by have := R164.1 15 _ _ rfl; have := R164.1 16 _ _ rfl; have := R164.1 19 _ _ rfl; omega); have := R164.1 15 _ _ rfl; have := R164.1 16 _ _ rfl; have := R164.1 19 _ _ rfl; omega) rfl
                  have K200 : rcp M0 M185 o0 11 880 (20 * x1.toNatClampNeg) i2_100.toInt := K176.same (((sA_a A190 (by decide)) : sA [11] _ _ _) 11 rfl)
                  have K201 : rcp M0 M185 o0 12 880 (20 * x1.toNatClampNeg) i2_100.toInt := K177.same (((sA_a A190 (by decide)) : sA [12] _ _ _) 12 rfl)
                  clear z169 z170 z171
                  refine mv_aload_n d_TrustDeskModel_stops_184 rfl rfl ?_
                  obtain ⟨a203, q202, t_a203⟩ := tm_atR I186 h_q0_100 (k := 11) rfl
                  refine tr_getK q202 d_TrustDeskModel_stops_185 f_TrustDeskModel_38_13 ?_
                  refine mv_iload d_TrustDeskModel_stops_188 rfl ?_
                  refine mv_aload_n d_TrustDeskModel_stops_190 rfl rfl ?_
                  refine tr_getK (k := 11) q202 d_TrustDeskModel_stops_191 f_TrustDeskModel_38_13 ?_
                  refine mv_iload_n d_TrustDeskModel_stops_194 rfl rfl ?_
                  have b204 : (880 + i2_100 : Int32).toInt = (880 + i2_100.toInt) := mz_add2 (by decide) rfl (by have := R188.1 15 _ _ rfl; have := R188.1 16 _ _ rfl; have := R188.1 19 _ _ rfl; omega) (by have := R188.1 15 _ _ rfl; have := R188.1 16 _ _ rfl; have := R188.1 19 _ _ rfl; omega)
                  refine tr_ialdR (o := o0) (k := 11) I186 q202 t_a203 (by decide) d_TrustDeskModel_stops_195 (vp_in_iff.mpr (by have := R188.1 15 _ _ rfl; have := R188.1 16 _ _ rfl; have := R188.1 19 _ _ rfl; omega)) (fun v205 e206 => ?_)
                  have := R188.a (k := 11) rfl ((880 + i2_100) : Int32).toNatClampNeg
                  have b207 : (20 * x1 : Int32).toInt = (20 * x1.toInt) := mz_mul2 (by decide) rfl (by have := R188.1 15 _ _ rfl; have := R188.1 16 _ _ rfl; have := R188.1 19 _ _ rfl; omega) (by have := R188.1 15 _ _ rfl; have := R188.1 16 _ _ rfl; have := R188.1 19 _ _ rfl; omega)
                  have b208 : ((20 * x1) + i2_100 : Int32).toInt = ((20 * x1.toInt) + i2_100.toInt) := mz_add2 b207 rfl (by have := R188.1 15 _ _ rfl; have := R188.1 16 _ _ rfl; have := R188.1 19 _ _ rfl; omega) (by have := R188.1 15 _ _ rfl; have := R188.1 16 _ _ rfl; have := R188.1 19 _ _ rfl; omega)
                  refine tr_iastR (k := 11) I186 R188 (I186.up h_o0) q202 t_a203 (by decide) (by decide) (fun lo hi h => by cases h; have := R188.1 15 _ _ rfl; have := R188.1 16 _ _ rfl; have := R188.1 19 _ _ rfl; exact ⟨by show (0 : Int) ≤ v205.toInt; omega, by show v205.toInt ≤ (400 : Int); omega⟩) (Or.inl (by decide)) d_TrustDeskModel_stops_196 (vp_in_iff.mpr (by have := R188.1 15 _ _ rfl; have := R188.1 16 _ _ rfl; have := R188.1 19 _ _ rfl; omega)) (fun M209 I210 K211 R212 E213 A214 V215 => ?_)
                  have z216 := (V215 19).trans z192
                  have z217 := (A214 5 (by decide) rfl 44).trans z193
                  have z218 := (A214 6 (by decide) rfl 44).trans z194
                  have z219 := (A214 6 (by decide) rfl x1.toNatClampNeg).trans z195
                  have K220 : rcp M0 M209 o0 4 18480 (420 * x1.toNatClampNeg) i2_94.toInt := K196.same (((sA_a A214 (by decide)) : sA [4] _ _ _) 4 rfl)
                  have K221 : rcp M0 M209 o0 7 880 (20 * x1.toNatClampNeg) (i2_100.toInt + 1) := K197.same (((sA_a A214 (by decide)) : sA [7] _ _ _) 7 rfl)
                  have K222 : rcp M0 M209 o0 8 880 (20 * x1.toNatClampNeg) (i2_100.toInt + 1) := K198.same (((sA_a A214 (by decide)) : sA [8] _ _ _) 8 rfl)
                  have K223 : rcp M0 M209 o0 10 880 (20 * x1.toNatClampNeg) (i2_100.toInt + 1) := K199.same (((sA_a A214 (by decide)) : sA [10] _ _ _) 10 rfl)
                  have K224 : rcp M0 M209 o0 11 880 (20 * x1.toNatClampNeg) (i2_100.toInt + 1) := K200.st E213 (by have := R188.1 15 _ _ rfl; have := R188.1 16 _ _ rfl; have := R188.1 19 _ _ rfl; omega) (by have := mz_nat9 (i := ((20 * x1) + i2_100)) (by have := R188.1 15 _ _ rfl; have := R188.1 16 _ _ rfl; have := R188.1 19 _ _ rfl; omega); have := mz_nat9 (i := x1) (by have := R188.1 15 _ _ rfl; have := R188.1 16 _ _ rfl; have := R188.1 19 _ _ rfl; omega); have := R188.1 15 _ _ rfl; have := R188.1 16 _ _ rfl; have := R188.1 19 _ _ rfl; omega) e206 (by have := mz_nat9 (i := (880 + i2_100)) (by have := R188.1 15 _ _ rfl; have := R188.1 16 _ _ rfl; have := R188.1 19 _ _ rfl; omega); have := R188.1 15 _ _ rfl; have := R188.1 16 _ _ rfl; have := R188.1 19 _ _ rfl; omega) (by have := mz_nat9 (i := x1) (by have := R188.1 15 _ _ rfl; have := R188.1 16 _ _ rfl; have := R188.1 19 _ _ rfl; omega); have := R188.1 15 _ _ rfl; have := R188.1 16 _ _ rfl; have := R188.1 19 _ _ rfl; omega) rfl
                  have K225 : rcp M0 M209 o0 12 880 (20 * x1.toNatClampNeg) i2_100.toInt := K201.same (((sA_a A214 (by decide)) : sA [12] _ _ _) 12 rfl)
                  clear z193 z194 z195
                  refine mv_aload_n d_TrustDeskModel_stops_197 rfl rfl ?_
                  obtain ⟨a227, q226, t_a227⟩ := tm_atR I210 h_q0_100 (k := 12) rfl
                  refine tr_getK q226 d_TrustDeskModel_stops_198 f_TrustDeskModel_41_13 ?_
                  refine mv_iload d_TrustDeskModel_stops_201 rfl ?_
                  refine mv_aload_n d_TrustDeskModel_stops_203 rfl rfl ?_
                  refine tr_getK (k := 12) q226 d_TrustDeskModel_stops_204 f_TrustDeskModel_41_13 ?_
                  refine mv_iload_n d_TrustDeskModel_stops_207 rfl rfl ?_
                  have b228 : (880 + i2_100 : Int32).toInt = (880 + i2_100.toInt) := mz_add2 (by decide) rfl (by have := R212.1 15 _ _ rfl; have := R212.1 16 _ _ rfl; have := R212.1 19 _ _ rfl; omega) (by have := R212.1 15 _ _ rfl; have := R212.1 16 _ _ rfl; have := R212.1 19 _ _ rfl; omega)
                  refine tr_ialdR (o := o0) (k := 12) I210 q226 t_a227 (by decide) d_TrustDeskModel_stops_208 (vp_in_iff.mpr (by have := R212.1 15 _ _ rfl; have := R212.1 16 _ _ rfl; have := R212.1 19 _ _ rfl; omega)) (fun v229 e230 => ?_)
                  have := R212.a (k := 12) rfl ((880 + i2_100) : Int32).toNatClampNeg
                  have b231 : (20 * x1 : Int32).toInt = (20 * x1.toInt) := mz_mul2 (by decide) rfl (by have := R212.1 15 _ _ rfl; have := R212.1 16 _ _ rfl; have := R212.1 19 _ _ rfl; omega) (by have := R212.1 15 _ _ rfl; have := R212.1 16 _ _ rfl; have := R212.1 19 _ _ rfl; omega)
                  have b232 : ((20 * x1) + i2_100 : Int32).toInt = ((20 * x1.toInt) + i2_100.toInt) := mz_add2 b231 rfl (by have := R212.1 15 _ _ rfl; have := R212.1 16 _ _ rfl; have := R212.1 19 _ _ rfl; omega) (by have := R212.1 15 _ _ rfl; have := R212.1 16 _ _ rfl; have := R212.1 19 _ _ rfl; omega)
                  refine tr_iastR (k := 12) I210 R212 (I210.up h_o0) q226 t_a227 (by decide) (by decide) (fun lo hi h => by cases h; have := R212.1 15 _ _ rfl; have := R212.1 16 _ _ rfl; have := R212.1 19 _ _ rfl; exact ⟨by show (0 : Int) ≤ v229.toInt; omega, by show v229.toInt ≤ (400 : Int); omega⟩) (Or.inl (by decide)) d_TrustDeskModel_stops_209 (vp_in_iff.mpr (by have := R212.1 15 _ _ rfl; have := R212.1 16 _ _ rfl; have := R212.1 19 _ _ rfl; omega)) (fun M233 I234 K235 R236 E237 A238 V239 => ?_)
                  have z240 := (V239 19).trans z216
                  have z241 := (A238 5 (by decide) rfl 44).trans z217
                  have z242 := (A238 6 (by decide) rfl 44).trans z218
                  have z243 := (A238 6 (by decide) rfl x1.toNatClampNeg).trans z219
                  have K244 : rcp M0 M233 o0 4 18480 (420 * x1.toNatClampNeg) i2_94.toInt := K220.same (((sA_a A238 (by decide)) : sA [4] _ _ _) 4 rfl)
                  have K245 : rcp M0 M233 o0 7 880 (20 * x1.toNatClampNeg) (i2_100.toInt + 1) := K221.same (((sA_a A238 (by decide)) : sA [7] _ _ _) 7 rfl)
                  have K246 : rcp M0 M233 o0 8 880 (20 * x1.toNatClampNeg) (i2_100.toInt + 1) := K222.same (((sA_a A238 (by decide)) : sA [8] _ _ _) 8 rfl)
                  have K247 : rcp M0 M233 o0 10 880 (20 * x1.toNatClampNeg) (i2_100.toInt + 1) := K223.same (((sA_a A238 (by decide)) : sA [10] _ _ _) 10 rfl)
                  have K248 : rcp M0 M233 o0 11 880 (20 * x1.toNatClampNeg) (i2_100.toInt + 1) := K224.same (((sA_a A238 (by decide)) : sA [11] _ _ _) 11 rfl)
                  have K249 : rcp M0 M233 o0 12 880 (20 * x1.toNatClampNeg) (i2_100.toInt + 1) := K225.st E237 (by have := R212.1 15 _ _ rfl; have := R212.1 16 _ _ rfl; have := R212.1 19 _ _ rfl; omega) (by have := mz_nat9 (i := ((20 * x1) + i2_100)) (by have := R212.1 15 _ _ rfl; have := R212.1 16 _ _ rfl; have := R212.1 19 _ _ rfl; omega); have := mz_nat9 (i := x1) (by have := R212.1 15 _ _ rfl; have := R212.1 16 _ _ rfl; have := R212.1 19 _ _ rfl; omega); have := R212.1 15 _ _ rfl; have := R212.1 16 _ _ rfl; have := R212.1 19 _ _ rfl; omega) e230 (by have := mz_nat9 (i := (880 + i2_100)) (by have := R212.1 15 _ _ rfl; have := R212.1 16 _ _ rfl; have := R212.1 19 _ _ rfl; omega); have := R212.1 15 _ _ rfl; have := R212.1 16 _ _ rfl; have := R212.1 19 _ _ rfl; omega) (by have := mz_nat9 (i := x1) (by have := R212.1 15 _ _ rfl; have := R212.1 16 _ _ rfl; have := R212.1 19 _ _ rfl; omega); have := R212.1 15 _ _ rfl; have := R212.1 16 _ _ rfl; have := R212.1 19 _ _ rfl; omega) rfl
                  clear z217 z218 z219
                  refine mv_iinc (v := (i2_100 + 1)) (lv' := [(2, .int (i2_100 + 1)), (4, .int ((20 * x1) + i2_100)), (3, .int (880 + i2_100)), (0, .ref o0), (1, .int x1)]) d_TrustDeskModel_stops_210 rfl rfl (by decide) rfl ?_
                  refine mv_goto (tgt := 107) d_TrustDeskModel_stops_213 (by decide) ?_
                  have K250 : rcp M0 M233 o0 7 880 (20 * x1.toNatClampNeg) ((i2_100 + 1).toInt) := K245.cast (by have := R236.1 15 _ _ rfl; have := R236.1 16 _ _ rfl; have := R236.1 19 _ _ rfl; omega)
                  have K251 : rcp M0 M233 o0 8 880 (20 * x1.toNatClampNeg) ((i2_100 + 1).toInt) := K246.cast (by have := R236.1 15 _ _ rfl; have := R236.1 16 _ _ rfl; have := R236.1 19 _ _ rfl; omega)
                  have K252 : rcp M0 M233 o0 10 880 (20 * x1.toNatClampNeg) ((i2_100 + 1).toInt) := K247.cast (by have := R236.1 15 _ _ rfl; have := R236.1 16 _ _ rfl; have := R236.1 19 _ _ rfl; omega)
                  have K253 : rcp M0 M233 o0 11 880 (20 * x1.toNatClampNeg) ((i2_100 + 1).toInt) := K248.cast (by have := R236.1 15 _ _ rfl; have := R236.1 16 _ _ rfl; have := R236.1 19 _ _ rfl; omega)
                  have K254 : rcp M0 M233 o0 12 880 (20 * x1.toNatClampNeg) ((i2_100 + 1).toInt) := K249.cast (by have := R236.1 15 _ _ rfl; have := R236.1 16 _ _ rfl; have := R236.1 19 _ _ rfl; omega)
                  refine mv_locals (lv' := [(2, .int (i2_100 + 1)), (0, .ref o0), (1, .int x1)]) (by intro q hq; simp only [List.mem_cons, List.not_mem_nil, or_false] at hq; rcases hq with rfl | rfl | rfl <;> rfl) ?_
                  have b255 : (i2_100 + 1).toInt = i2_100.toInt + 1 := mz_addn 1 1 (by decide) (by have := mz_lo i2_100; omega) (by have := mz_hi i2_100; omega)
                  exact (ih100 (i2_100 + 1) T_100 M233 n_100 I234 h_q0_100 (by have := R236.1 15 _ _ rfl; have := R236.1 16 _ _ rfl; have := R236.1 19 _ _ rfl; first | omega | decide | exact fun h9 => absurd (by decide) h9) (by have := R236.1 15 _ _ rfl; have := R236.1 16 _ _ rfl; have := R236.1 19 _ _ rfl; first | omega | decide | exact fun h9 => absurd (by decide) h9) (by have := R236.1 15 _ _ rfl; have := R236.1 16 _ _ rfl; have := R236.1 19 _ _ rfl; first | omega | decide | exact fun h9 => absurd (by decide) h9) (by have := R236.1 15 _ _ rfl; have := R236.1 16 _ _ rfl; have := R236.1 19 _ _ rfl; first | omega | decide | exact fun h9 => absurd (by decide) h9) (by have := R236.1 15 _ _ rfl; have := R236.1 16 _ _ rfl; have := R236.1 19 _ _ rfl; first | omega | decide | exact fun h9 => absurd (by decide) h9) (by have := R236.1 15 _ _ rfl; have := R236.1 16 _ _ rfl; have := R236.1 19 _ _ rfl; first | omega | decide | exact fun h9 => absurd (by decide) h9) R236 K244 K250 K251 K252 K253 K254 (by have := R236.1 15 _ _ rfl; have := R236.1 16 _ _ rfl; have := R236.1 19 _ _ rfl; omega))
            exact mv_less (Nat.zero_le _) (Nat.zero_le _) (L107_100 4294967296 0 T_94 M_94 n_94 I_94 h_q0_94 (by have := kKR_94.1 15 _ _ rfl; have := kKR_94.1 16 _ _ rfl; have := kKR_94.1 19 _ _ rfl; first | omega | decide | exact fun h9 => absurd (by decide) h9) (by have := kKR_94.1 15 _ _ rfl; have := kKR_94.1 16 _ _ rfl; have := kKR_94.1 19 _ _ rfl; first | omega | decide | exact fun h9 => absurd (by decide) h9) (by have := kKR_94.1 15 _ _ rfl; have := kKR_94.1 16 _ _ rfl; have := kKR_94.1 19 _ _ rfl; first | omega | decide | exact fun h9 => absurd (by decide) h9) (by have := kKR_94.1 15 _ _ rfl; have := kKR_94.1 16 _ _ rfl; have := kKR_94.1 19 _ _ rfl; first | omega | decide | exact fun h9 => absurd (by decide) h9) (by have := kKR_94.1 15 _ _ rfl; have := kKR_94.1 16 _ _ rfl; have := kKR_94.1 19 _ _ rfl; first | omega | decide | exact fun h9 => absurd (by decide) h9) (by have := kKR_94.1 15 _ _ rfl; have := kKR_94.1 16 _ _ rfl; have := kKR_94.1 19 _ _ rfl; first | omega | decide | exact fun h9 => absurd (by decide) h9) kKR_94 kKQ4_94 kKQ7_94 kKQ8_94 kKQ10_94 kKQ11_94 kKQ12_94 (by show (2147483647 - (0 : Int) : Int) < _; decide))
          · refine mv_aload_n d_TrustDeskModel_stops_77 rfl rfl ?_
            obtain ⟨a257, q256, t_a257⟩ := tm_atR I_94 h_q0_94 (k := 4) rfl
            refine tr_getK q256 d_TrustDeskModel_stops_78 f_TrustDeskModel_17_13 ?_
            refine mv_sipush (v := 420) d_TrustDeskModel_stops_81 (by decide) ?_
            refine mv_iload_n d_TrustDeskModel_stops_84 rfl rfl ?_
            refine mv_imul d_TrustDeskModel_stops_85 ?_
            refine mv_iload_n d_TrustDeskModel_stops_86 rfl rfl ?_
            refine mv_iadd d_TrustDeskModel_stops_87 ?_
            refine mv_aload_n d_TrustDeskModel_stops_88 rfl rfl ?_
            refine tr_getK (k := 4) q256 d_TrustDeskModel_stops_89 f_TrustDeskModel_17_13 ?_
            refine mv_sipush (v := 18480) d_TrustDeskModel_stops_92 (by decide) ?_
            refine mv_iload_n d_TrustDeskModel_stops_95 rfl rfl ?_
            refine mv_iadd d_TrustDeskModel_stops_96 ?_
            have b258 : (18480 + i2_94 : Int32).toInt = (18480 + i2_94.toInt) := mz_add2 (by decide) rfl (by have := kKR_94.1 15 _ _ rfl; have := kKR_94.1 16 _ _ rfl; have := kKR_94.1 19 _ _ rfl; omega) (by have := kKR_94.1 15 _ _ rfl; have := kKR_94.1 16 _ _ rfl; have := kKR_94.1 19 _ _ rfl; omega)
            refine tr_ialdR (o := o0) (k := 4) I_94 q256 t_a257 (by decide) d_TrustDeskModel_stops_97 (vp_in_iff.mpr (by have := kKR_94.1 15 _ _ rfl; have := kKR_94.1 16 _ _ rfl; have := kKR_94.1 19 _ _ rfl; omega)) (fun v259 e260 => ?_)
            have := kKR_94.a (k := 4) rfl ((18480 + i2_94) : Int32).toNatClampNeg
            have b261 : (420 * x1 : Int32).toInt = (420 * x1.toInt) := mz_mul2 (by decide) rfl (by have := kKR_94.1 15 _ _ rfl; have := kKR_94.1 16 _ _ rfl; have := kKR_94.1 19 _ _ rfl; omega) (by have := kKR_94.1 15 _ _ rfl; have := kKR_94.1 16 _ _ rfl; have := kKR_94.1 19 _ _ rfl; omega)
            have b262 : ((420 * x1) + i2_94 : Int32).toInt = ((420 * x1.toInt) + i2_94.toInt) := mz_add2 b261 rfl (by have := kKR_94.1 15 _ _ rfl; have := kKR_94.1 16 _ _ rfl; have := kKR_94.1 19 _ _ rfl; omega) (by have := kKR_94.1 15 _ _ rfl; have := kKR_94.1 16 _ _ rfl; have := kKR_94.1 19 _ _ rfl; omega)
            refine tr_iastR (k := 4) I_94 kKR_94 (I_94.up h_o0) q256 t_a257 (by decide) (by decide) (fun lo hi h => by cases h; have := kKR_94.1 15 _ _ rfl; have := kKR_94.1 16 _ _ rfl; have := kKR_94.1 19 _ _ rfl; exact ⟨by show ((-9) : Int) ≤ v259.toInt; omega, by show v259.toInt ≤ (10012 : Int); omega⟩) (Or.inl (by decide)) d_TrustDeskModel_stops_98 (vp_in_iff.mpr (by have := kKR_94.1 15 _ _ rfl; have := kKR_94.1 16 _ _ rfl; have := kKR_94.1 19 _ _ rfl; omega)) (fun M263 I264 K265 R266 E267 A268 V269 => ?_)
            have z270 := (V269 19)
            have z271 := (A268 5 (by decide) rfl 44)
            have z272 := (A268 6 (by decide) rfl 44)
            have z273 := (A268 6 (by decide) rfl x1.toNatClampNeg)
            have K274 : rcp M0 M263 o0 4 18480 (420 * x1.toNatClampNeg) (i2_94.toInt + 1) := kKQ4_94.st E267 (by have := kKR_94.1 15 _ _ rfl; have := kKR_94.1 16 _ _ rfl; have := kKR_94.1 19 _ _ rfl; omega) (by have := mz_nat9 (i := ((420 * x1) + i2_94)) (by have := kKR_94.1 15 _ _ rfl; have := kKR_94.1 16 _ _ rfl; have := kKR_94.1 19 _ _ rfl; omega); have := mz_nat9 (i := x1) (by have := kKR_94.1 15 _ _ rfl; have := kKR_94.1 16 _ _ rfl; have := kKR_94.1 19 _ _ rfl; omega); have := kKR_94.1 15 _ _ rfl; have := kKR_94.1 16 _ _ rfl; have := kKR_94.1 19 _ _ rfl; omega) e260 (by have := mz_nat9 (i := (18480 + i2_94)) (by have := kKR_94.1 15 _ _ rfl; have := kKR_94.1 16 _ _ rfl; have := kKR_94.1 19 _ _ rfl; omega); have := kKR_94.1 15 _ _ rfl; have := kKR_94.1 16 _ _ rfl; have := kKR_94.1 19 _ _ rfl; omega) (by have := mz_nat9 (i := x1) (by have := kKR_94.1 15 _ _ rfl; have := kKR_94.1 16 _ _ rfl; have := kKR_94.1 19 _ _ rfl; omega); have := kKR_94.1 15 _ _ rfl; have := kKR_94.1 16 _ _ rfl; have := kKR_94.1 19 _ _ rfl; omega) rfl
            have K275 : rcp M0 M263 o0 7 880 (20 * x1.toNatClampNeg) 0 := kKQ7_94.same (((sA_a A268 (by decide)) : sA [7] _ _ _) 7 rfl)
            have K276 : rcp M0 M263 o0 8 880 (20 * x1.toNatClampNeg) 0 := kKQ8_94.same (((sA_a A268 (by decide)) : sA [8] _ _ _) 8 rfl)
            have K277 : rcp M0 M263 o0 10 880 (20 * x1.toNatClampNeg) 0 := kKQ10_94.same (((sA_a A268 (by decide)) : sA [10] _ _ _) 10 rfl)
            have K278 : rcp M0 M263 o0 11 880 (20 * x1.toNatClampNeg) 0 := kKQ11_94.same (((sA_a A268 (by decide)) : sA [11] _ _ _) 11 rfl)
            have K279 : rcp M0 M263 o0 12 880 (20 * x1.toNatClampNeg) 0 := kKQ12_94.same (((sA_a A268 (by decide)) : sA [12] _ _ _) 12 rfl)
            refine mv_iinc (v := (i2_94 + 1)) (lv' := [(2, .int (i2_94 + 1)), (0, .ref o0), (1, .int x1)]) d_TrustDeskModel_stops_99 rfl rfl (by decide) rfl ?_
            refine mv_goto (tgt := 66) d_TrustDeskModel_stops_102 (by decide) ?_
            have K280 : rcp M0 M263 o0 4 18480 (420 * x1.toNatClampNeg) ((i2_94 + 1).toInt) := K274.cast (by have := R266.1 15 _ _ rfl; have := R266.1 16 _ _ rfl; have := R266.1 19 _ _ rfl; omega)
            have b281 : (i2_94 + 1).toInt = i2_94.toInt + 1 := mz_addn 1 1 (by decide) (by have := mz_lo i2_94; omega) (by have := mz_hi i2_94; omega)
            exact (ih94 (i2_94 + 1) T_94 M263 n_94 I264 h_q0_94 (by have := R266.1 15 _ _ rfl; have := R266.1 16 _ _ rfl; have := R266.1 19 _ _ rfl; first | omega | decide | exact fun h9 => absurd (by decide) h9) (by have := R266.1 15 _ _ rfl; have := R266.1 16 _ _ rfl; have := R266.1 19 _ _ rfl; first | omega | decide | exact fun h9 => absurd (by decide) h9) (by have := R266.1 15 _ _ rfl; have := R266.1 16 _ _ rfl; have := R266.1 19 _ _ rfl; first | omega | decide | exact fun h9 => absurd (by decide) h9) (by have := R266.1 15 _ _ rfl; have := R266.1 16 _ _ rfl; have := R266.1 19 _ _ rfl; first | omega | decide | exact fun h9 => absurd (by decide) h9) (by have := R266.1 15 _ _ rfl; have := R266.1 16 _ _ rfl; have := R266.1 19 _ _ rfl; first | omega | decide | exact fun h9 => absurd (by decide) h9) (by have := R266.1 15 _ _ rfl; have := R266.1 16 _ _ rfl; have := R266.1 19 _ _ rfl; first | omega | decide | exact fun h9 => absurd (by decide) h9) R266 K280 K275 K276 K277 K278 K279 (by have := R266.1 15 _ _ rfl; have := R266.1 16 _ _ rfl; have := R266.1 19 _ _ rfl; omega))
      exact mv_less (Nat.zero_le _) (Nat.zero_le _) (L66_94 4294967296 0 T0 M75 n0 I76 h_o0 (by have := R78.1 15 _ _ rfl; have := R78.1 16 _ _ rfl; have := R78.1 19 _ _ rfl; first | omega | decide | exact fun h9 => absurd (by decide) h9) (by have := R78.1 15 _ _ rfl; have := R78.1 16 _ _ rfl; have := R78.1 19 _ _ rfl; first | omega | decide | exact fun h9 => absurd (by decide) h9) (by have := R78.1 15 _ _ rfl; have := R78.1 16 _ _ rfl; have := R78.1 19 _ _ rfl; first | omega | decide | exact fun h9 => absurd (by decide) h9) (by have := R78.1 15 _ _ rfl; have := R78.1 16 _ _ rfl; have := R78.1 19 _ _ rfl; first | omega | decide | exact fun h9 => absurd (by decide) h9) (by have := R78.1 15 _ _ rfl; have := R78.1 16 _ _ rfl; have := R78.1 19 _ _ rfl; first | omega | decide | exact fun h9 => absurd (by decide) h9) (by have := R78.1 15 _ _ rfl; have := R78.1 16 _ _ rfl; have := R78.1 19 _ _ rfl; first | omega | decide | exact fun h9 => absurd (by decide) h9) R78 K87 K88 K89 K90 K91 K92 (by show (2147483647 - (0 : Int) : Int) < _; decide))
  · refine mv_iconst (v := 1) d_TrustDeskModel_isWell_7 (by decide) ?_
    refine mv_goto (tgt := 12) d_TrustDeskModel_isWell_8 (by decide) ?_
    refine mv_iret d_TrustDeskModel_isWell_12 rfl (by decide) ?_
    refine mv_if_eq_f (tgt := 17) d_TrustDeskModel_stops_10 (by decide) (by decide) ?_
    refine mv_iconst (v := (-1)) d_TrustDeskModel_stops_13 (by decide) ?_
    refine mv_goto (tgt := 21) d_TrustDeskModel_stops_14 (by decide) ?_
    refine tr_putR (k := 21) I9 R12 h_o0 rfl ⟨_, rfl⟩ (fun _ h => by cases h) rfl (fun lo hi h => by cases h) (Or.inl (by decide)) d_TrustDeskModel_stops_21 p_TrustDeskModel_48_13 rfl rfl (fun M282 I283 q284 K285 R286 A287 V288 => ?_)
    have z289 := (V288 19 (by decide)).trans z15
    have z290 := (A287 5 (by decide) 44).trans z16
    have z291 := (A287 6 (by decide) 44).trans z17
    have K292 : rcp M0 M282 o0 4 18480 (420 * x1.toNatClampNeg) 0 := K18.same (((sA_f A287 (by decide)) : sA [4] _ _ _) 4 rfl)
    have K293 : rcp M0 M282 o0 7 880 (20 * x1.toNatClampNeg) 0 := K19.same (((sA_f A287 (by decide)) : sA [7] _ _ _) 7 rfl)
    have K294 : rcp M0 M282 o0 8 880 (20 * x1.toNatClampNeg) 0 := K20.same (((sA_f A287 (by decide)) : sA [8] _ _ _) 8 rfl)
    have K295 : rcp M0 M282 o0 10 880 (20 * x1.toNatClampNeg) 0 := K21.same (((sA_f A287 (by decide)) : sA [10] _ _ _) 10 rfl)
    have K296 : rcp M0 M282 o0 11 880 (20 * x1.toNatClampNeg) 0 := K22.same (((sA_f A287 (by decide)) : sA [11] _ _ _) 11 rfl)
    have K297 : rcp M0 M282 o0 12 880 (20 * x1.toNatClampNeg) 0 := K23.same (((sA_f A287 (by decide)) : sA [12] _ _ _) 12 rfl)
    have K298 : sA [4, 7, 8, 10, 11, 12] M0 M282 o0 := K24.trans (sA_f A287 (by decide))
    clear z16 z17
    refine mv_aload_n d_TrustDeskModel_stops_24 rfl rfl ?_
    obtain ⟨_, b299, -⟩ := I283.1 _ _ h_o0
    refine mv_callV (kc1 := 0) (ks1 := 0) (kc' := 0) (ks' := 0) (As := []) (st9 := [.ref o0]) d_TrustDeskModel_stops_25 lV_TrustDeskModel_230 b299 rfl (mj_enter (by decide) (Nat.le_of_ble_eq_true rfl) ?_) rfl (Nat.le_of_ble_eq_true rfl) (Nat.le_of_ble_eq_true rfl) (Nat.le_of_ble_eq_true rfl) (hst := rfl) (fun _ _ _ h => h)
    refine mv_aload_n d_TrustDeskModel_isWell_0 rfl rfl ?_
    refine tr_getK (k := 19) (K285 _ 13 19 _ rfl q26) d_TrustDeskModel_isWell_1 f_TrustDeskModel_224_13 ?_
    have := mz_hi v27
    refine mv_if_neZ (tgt := 11) (a := v27.toInt) d_TrustDeskModel_isWell_4 (by decide) rfl (fun b300 => absurd b300 (by omega)) (fun b300 => ?_)
    refine mv_iconst (v := 1) d_TrustDeskModel_isWell_7 (by decide) ?_
    refine mv_goto (tgt := 12) d_TrustDeskModel_isWell_8 (by decide) ?_
    refine mv_iret d_TrustDeskModel_isWell_12 rfl (by decide) ?_
    refine mv_if_ne_t (tgt := 38) d_TrustDeskModel_stops_28 (by decide) (by decide) ?_
    refine mv_aload_n d_TrustDeskModel_stops_38 rfl rfl ?_
    obtain ⟨a302, q301, t_a302⟩ := tm_atR I283 h_o0 (k := 5) rfl
    refine tr_getK q301 d_TrustDeskModel_stops_39 f_TrustDeskModel_20_13 ?_
    refine mv_iload_n d_TrustDeskModel_stops_42 rfl rfl ?_
    refine mv_aload_n d_TrustDeskModel_stops_43 rfl rfl ?_
    refine tr_getK (k := 5) q301 d_TrustDeskModel_stops_44 f_TrustDeskModel_20_13 ?_
    refine mv_bipush (v := 44) d_TrustDeskModel_stops_47 (by decide) ?_
    refine tr_ialdR (o := o0) (k := 5) I283 q301 t_a302 (by decide) d_TrustDeskModel_stops_49 (by unfold vp_in; decide) (fun v303 e304 => ?_)
    have := R286.a (k := 5) rfl (44 : Int32).toNatClampNeg
    have : v303.toInt = ra M282 o0 5 44 := e304
    have : v303.toInt = _ := Eq.trans e304 z290
    refine tr_iastR (k := 5) I283 R286 (I283.up h_o0) q301 t_a302 (by decide) (by decide) (fun lo hi h => by cases h; have := R286.1 15 _ _ rfl; have := R286.1 16 _ _ rfl; have := R286.1 19 _ _ rfl; exact ⟨by show (0 : Int) ≤ v303.toInt; omega, by show v303.toInt ≤ (400 : Int); omega⟩) (Or.inl (by decide)) d_TrustDeskModel_stops_50 (vp_in_iff.mpr (by have := R286.1 15 _ _ rfl; have := R286.1 16 _ _ rfl; have := R286.1 19 _ _ rfl; omega)) (fun M305 I306 K307 R308 E309 A310 V311 => ?_)
    have z312 := (V311 19).trans z289
    have z313 := ((E309 44).trans (if_neg (by have := mz_nat9 (i := x1) (by have := R286.1 15 _ _ rfl; have := R286.1 16 _ _ rfl; have := R286.1 19 _ _ rfl; omega); omega))).trans z290
    have z314 := (A310 6 (by decide) rfl 44).trans z291
    have K315 : rcp M0 M305 o0 4 18480 (420 * x1.toNatClampNeg) 0 := K292.same (((sA_a A310 (by decide)) : sA [4] _ _ _) 4 rfl)
    have K316 : rcp M0 M305 o0 7 880 (20 * x1.toNatClampNeg) 0 := K293.same (((sA_a A310 (by decide)) : sA [7] _ _ _) 7 rfl)
    have K317 : rcp M0 M305 o0 8 880 (20 * x1.toNatClampNeg) 0 := K294.same (((sA_a A310 (by decide)) : sA [8] _ _ _) 8 rfl)
    have K318 : rcp M0 M305 o0 10 880 (20 * x1.toNatClampNeg) 0 := K295.same (((sA_a A310 (by decide)) : sA [10] _ _ _) 10 rfl)
    have K319 : rcp M0 M305 o0 11 880 (20 * x1.toNatClampNeg) 0 := K296.same (((sA_a A310 (by decide)) : sA [11] _ _ _) 11 rfl)
    have K320 : rcp M0 M305 o0 12 880 (20 * x1.toNatClampNeg) 0 := K297.same (((sA_a A310 (by decide)) : sA [12] _ _ _) 12 rfl)
    have K321 : sA [4, 7, 8, 10, 11, 12] M0 M305 o0 := K298.trans (sA_a A310 (by decide))
    clear z290 z291
    refine mv_aload_n d_TrustDeskModel_stops_51 rfl rfl ?_
    obtain ⟨a323, q322, t_a323⟩ := tm_atR I306 h_o0 (k := 6) rfl
    refine tr_getK q322 d_TrustDeskModel_stops_52 f_TrustDeskModel_23_13 ?_
    refine mv_iload_n d_TrustDeskModel_stops_55 rfl rfl ?_
    refine mv_aload_n d_TrustDeskModel_stops_56 rfl rfl ?_
    refine tr_getK (k := 6) q322 d_TrustDeskModel_stops_57 f_TrustDeskModel_23_13 ?_
    refine mv_bipush (v := 44) d_TrustDeskModel_stops_60 (by decide) ?_
    refine tr_ialdR (o := o0) (k := 6) I306 q322 t_a323 (by decide) d_TrustDeskModel_stops_62 (by unfold vp_in; decide) (fun v324 e325 => ?_)
    have := R308.a (k := 6) rfl (44 : Int32).toNatClampNeg
    have : v324.toInt = ra M305 o0 6 44 := e325
    have : v324.toInt = _ := Eq.trans e325 z314
    refine tr_iastR (k := 6) I306 R308 (I306.up h_o0) q322 t_a323 (by decide) (by decide) (fun lo hi h => by cases h; have := R308.1 15 _ _ rfl; have := R308.1 16 _ _ rfl; have := R308.1 19 _ _ rfl; exact ⟨by show (0 : Int) ≤ v324.toInt; omega, by show v324.toInt ≤ (20 : Int); omega⟩) (Or.inl (by decide)) d_TrustDeskModel_stops_63 (vp_in_iff.mpr (by have := R308.1 15 _ _ rfl; have := R308.1 16 _ _ rfl; have := R308.1 19 _ _ rfl; omega)) (fun M326 I327 K328 R329 E330 A331 V332 => ?_)
    have z333 := (V332 19).trans z312
    have z334 := (A331 5 (by decide) rfl 44).trans z313
    have z335 := ((E330 44).trans (if_neg (by have := mz_nat9 (i := x1) (by have := R308.1 15 _ _ rfl; have := R308.1 16 _ _ rfl; have := R308.1 19 _ _ rfl; omega); omega))).trans z314
    have h336 : x1.toNatClampNeg = x1.toNatClampNeg := by have := mz_nat9 (i := x1) (by have := R308.1 15 _ _ rfl; have := R308.1 16 _ _ rfl; have := R308.1 19 _ _ rfl; omega); have := R308.1 15 _ _ rfl; have := R308.1 16 _ _ rfl; have := R308.1 19 _ _ rfl; omega
    have z337 : ra M326 o0 6 x1.toNatClampNeg = v324.toInt := (E330 _).trans (if_pos h336)
    have K338 : rcp M0 M326 o0 4 18480 (420 * x1.toNatClampNeg) 0 := K315.same (((sA_a A331 (by decide)) : sA [4] _ _ _) 4 rfl)
    have K339 : rcp M0 M326 o0 7 880 (20 * x1.toNatClampNeg) 0 := K316.same (((sA_a A331 (by decide)) : sA [7] _ _ _) 7 rfl)
    have K340 : rcp M0 M326 o0 8 880 (20 * x1.toNatClampNeg) 0 := K317.same (((sA_a A331 (by decide)) : sA [8] _ _ _) 8 rfl)
    have K341 : rcp M0 M326 o0 10 880 (20 * x1.toNatClampNeg) 0 := K318.same (((sA_a A331 (by decide)) : sA [10] _ _ _) 10 rfl)
    have K342 : rcp M0 M326 o0 11 880 (20 * x1.toNatClampNeg) 0 := K319.same (((sA_a A331 (by decide)) : sA [11] _ _ _) 11 rfl)
    have K343 : rcp M0 M326 o0 12 880 (20 * x1.toNatClampNeg) 0 := K320.same (((sA_a A331 (by decide)) : sA [12] _ _ _) 12 rfl)
    have K344 : sA [4, 7, 8, 10, 11, 12] M0 M326 o0 := K321.trans (sA_a A331 (by decide))
    clear z313 z314
    refine mv_iconst (v := 0) d_TrustDeskModel_stops_64 (by decide) ?_
    refine mv_istore_n (lv' := [(2, .int 0), (0, .ref o0), (1, .int x1)]) d_TrustDeskModel_stops_65 rfl (by decide) rfl ?_
    have L66_345 : ∀ (k : Nat) (i2_345 : Int32) (T_345 : tm_H) (M_345 : mj_M) (n_345 : Nat), tm_I tm_FT (tm_in w_TrustDeskModel_stops_x) x9 T0 M0 n0 T_345 M_345 n_345 → T_345 o0 = some (0, 13, 0) → 0 ≤ i2_345.toInt → rv M_345 o0 19 = rv M0 o0 19 → ra M_345 o0 5 44 = ra M0 o0 5 44 → ra M_345 o0 6 44 = ra M0 o0 6 44 → ra M_345 o0 6 x1.toNatClampNeg = ra M0 o0 6 44 → i2_345.toInt ≤ ra M0 o0 5 44 → (rI M_345 o0) → (rcp M0 M_345 o0 4 18480 (420 * x1.toNatClampNeg) i2_345.toInt) → (rcp M0 M_345 o0 7 880 (20 * x1.toNatClampNeg) 0) → (rcp M0 M_345 o0 8 880 (20 * x1.toNatClampNeg) 0) → (rcp M0 M_345 o0 10 880 (20 * x1.toNatClampNeg) 0) → (rcp M0 M_345 o0 11 880 (20 * x1.toNatClampNeg) 0) → (rcp M0 M_345 o0 12 880 (20 * x1.toNatClampNeg) 0) → 2147483647 - i2_345.toInt < (k : Int) → mj_V g l kY_TrustDeskModel_stops (d + 1) 66 [(2, .int i2_345), (0, .ref o0), (1, .int x1)] [] M_345 n_345 0 0 (tm_Q tm_FT (tm_in w_TrustDeskModel_stops_x) x9 T0 M0 n0 (fun r _ M => ∃ v : Int32, r = some (.int v) ∧ rI M o0 ∧ (rv M0 o0 19 ≠ 0 → v.toInt < 0 ∧ sA [4, 7, 8, 10, 11, 12] M0 M o0) ∧ (rv M0 o0 19 = 0 → v.toInt = 0 ∧ rcp M0 M o0 4 18480 (420 * x1.toNatClampNeg) (ra M0 o0 5 44) ∧ rcp M0 M o0 7 880 (20 * x1.toNatClampNeg) (ra M0 o0 6 44) ∧ rcp M0 M o0 8 880 (20 * x1.toNatClampNeg) (ra M0 o0 6 44) ∧ rcp M0 M o0 10 880 (20 * x1.toNatClampNeg) (ra M0 o0 6 44) ∧ rcp M0 M o0 11 880 (20 * x1.toNatClampNeg) (ra M0 o0 6 44) ∧ rcp M0 M o0 12 880 (20 * x1.toNatClampNeg) (ra M0 o0 6 44) ∧ ra M o0 6 x1.toNatClampNeg = ra M0 o0 6 44))) := by
      intro k345
      induction k345 with
      | zero =>
        intro i2_345 T_345 M_345 n_345 I_345 h_q0_345 iv0_345 iv1_345 iv2_345 iv3_345 iv4_345 iv5_345 kKR_345 kKQ4_345 kKQ7_345 kKQ8_345 kKQ10_345 kKQ11_345 kKQ12_345 hk345
        have := mz_hi i2_345
        have := kKR_345.1 15 _ _ rfl
        have := kKR_345.1 16 _ _ rfl
        have := kKR_345.1 19 _ _ rfl
        omega
      | succ k345 ih345 =>
        intro i2_345 T_345 M_345 n_345 I_345 h_q0_345 iv0_345 iv1_345 iv2_345 iv3_345 iv4_345 iv5_345 kKR_345 kKQ4_345 kKQ7_345 kKQ8_345 kKQ10_345 kKQ11_345 kKQ12_345 hk345
        refine mv_iload_n d_TrustDeskModel_stops_66 rfl rfl ?_
        refine mv_aload_n d_TrustDeskModel_stops_67 rfl rfl ?_
        obtain ⟨a347, q346, t_a347⟩ := tm_atR I_345 h_q0_345 (k := 5) rfl
        refine tr_getK q346 d_TrustDeskModel_stops_68 f_TrustDeskModel_20_13 ?_
        refine mv_bipush (v := 44) d_TrustDeskModel_stops_71 (by decide) ?_
        refine tr_ialdR (o := o0) (k := 5) I_345 q346 t_a347 (by decide) d_TrustDeskModel_stops_73 (by unfold vp_in; decide) (fun v348 e349 => ?_)
        have := kKR_345.a (k := 5) rfl (44 : Int32).toNatClampNeg
        have : v348.toInt = ra M_345 o0 5 44 := e349
        have := mz_hi i2_345
        have := mz_hi v348
        refine mv_icmp_geZ (tgt := 105) (a := i2_345.toInt) (b := v348.toInt) d_TrustDeskModel_stops_74 (by decide) rfl rfl (fun b350 => ?_) (fun b350 => ?_)
        · refine mv_iconst (v := 0) d_TrustDeskModel_stops_105 (by decide) ?_
          refine mv_istore_n (lv' := [(2, .int 0), (0, .ref o0), (1, .int x1)]) d_TrustDeskModel_stops_106 rfl (by decide) rfl ?_
          have L107_351 : ∀ (k : Nat) (i2_351 : Int32) (T_351 : tm_H) (M_351 : mj_M) (n_351 : Nat), tm_I tm_FT (tm_in w_TrustDeskModel_stops_x) x9 T0 M0 n0 T_351 M_351 n_351 → T_351 o0 = some (0, 13, 0) → 0 ≤ i2_351.toInt → rv M_351 o0 19 = rv M0 o0 19 → ra M_351 o0 5 44 = ra M0 o0 5 44 → ra M_351 o0 6 44 = ra M0 o0 6 44 → ra M_351 o0 6 x1.toNatClampNeg = ra M0 o0 6 44 → i2_351.toInt ≤ ra M0 o0 6 44 → (rI M_351 o0) → (rcp M0 M_351 o0 4 18480 (420 * x1.toNatClampNeg) i2_345.toInt) → (rcp M0 M_351 o0 7 880 (20 * x1.toNatClampNeg) i2_351.toInt) → (rcp M0 M_351 o0 8 880 (20 * x1.toNatClampNeg) i2_351.toInt) → (rcp M0 M_351 o0 10 880 (20 * x1.toNatClampNeg) i2_351.toInt) → (rcp M0 M_351 o0 11 880 (20 * x1.toNatClampNeg) i2_351.toInt) → (rcp M0 M_351 o0 12 880 (20 * x1.toNatClampNeg) i2_351.toInt) → 2147483647 - i2_351.toInt < (k : Int) → mj_V g l kY_TrustDeskModel_stops (d + 1) 107 [(2, .int i2_351), (0, .ref o0), (1, .int x1)] [] M_351 n_351 0 0 (tm_Q tm_FT (tm_in w_TrustDeskModel_stops_x) x9 T0 M0 n0 (fun r _ M => ∃ v : Int32, r = some (.int v) ∧ rI M o0 ∧ (rv M0 o0 19 ≠ 0 → v.toInt < 0 ∧ sA [4, 7, 8, 10, 11, 12] M0 M o0) ∧ (rv M0 o0 19 = 0 → v.toInt = 0 ∧ rcp M0 M o0 4 18480 (420 * x1.toNatClampNeg) (ra M0 o0 5 44) ∧ rcp M0 M o0 7 880 (20 * x1.toNatClampNeg) (ra M0 o0 6 44) ∧ rcp M0 M o0 8 880 (20 * x1.toNatClampNeg) (ra M0 o0 6 44) ∧ rcp M0 M o0 10 880 (20 * x1.toNatClampNeg) (ra M0 o0 6 44) ∧ rcp M0 M o0 11 880 (20 * x1.toNatClampNeg) (ra M0 o0 6 44) ∧ rcp M0 M o0 12 880 (20 * x1.toNatClampNeg) (ra M0 o0 6 44) ∧ ra M o0 6 x1.toNatClampNeg = ra M0 o0 6 44))) := by
            intro k351
            induction k351 with
            | zero =>
              intro i2_351 T_351 M_351 n_351 I_351 h_q0_351 iv0_351 iv1_351 iv2_351 iv3_351 iv4_351 iv5_351 kKR_351 kKQ4_351 kKQ7_351 kKQ8_351 kKQ10_351 kKQ11_351 kKQ12_351 hk351
              have := mz_hi i2_351
              have := kKR_351.1 15 _ _ rfl
              have := kKR_351.1 16 _ _ rfl
              have := kKR_351.1 19 _ _ rfl
              omega
            | succ k351 ih351 =>
              intro i2_351 T_351 M_351 n_351 I_351 h_q0_351 iv0_351 iv1_351 iv2_351 iv3_351 iv4_351 iv5_351 kKR_351 kKQ4_351 kKQ7_351 kKQ8_351 kKQ10_351 kKQ11_351 kKQ12_351 hk351
              refine mv_iload_n d_TrustDeskModel_stops_107 rfl rfl ?_
              refine mv_aload_n d_TrustDeskModel_stops_108 rfl rfl ?_
              obtain ⟨a353, q352, t_a353⟩ := tm_atR I_351 h_q0_351 (k := 6) rfl
              refine tr_getK q352 d_TrustDeskModel_stops_109 f_TrustDeskModel_23_13 ?_
              refine mv_bipush (v := 44) d_TrustDeskModel_stops_112 (by decide) ?_
              refine tr_ialdR (o := o0) (k := 6) I_351 q352 t_a353 (by decide) d_TrustDeskModel_stops_114 (by unfold vp_in; decide) (fun v354 e355 => ?_)
              have := kKR_351.a (k := 6) rfl (44 : Int32).toNatClampNeg
              have : v354.toInt = ra M_351 o0 6 44 := e355
              have := mz_hi i2_351
              have := mz_hi v354
              refine mv_icmp_geZ (tgt := 216) (a := i2_351.toInt) (b := v354.toInt) d_TrustDeskModel_stops_115 (by decide) rfl rfl (fun b356 => ?_) (fun b356 => ?_)
              · refine mv_iconst (v := 0) d_TrustDeskModel_stops_216 (by decide) ?_
                exact mv_iret d_TrustDeskModel_stops_217 rfl (by first | rfl | decide) ⟨_, I_351, _, rfl, kKR_351, (fun h9 => by exfalso; have := kKR_351.1 15 _ _ rfl; have := kKR_351.1 16 _ _ rfl; have := kKR_351.1 19 _ _ rfl; omega), (fun _ => ⟨by decide, kKQ4_351.cast (by have := kKR_351.1 15 _ _ rfl; have := kKR_351.1 16 _ _ rfl; have := kKR_351.1 19 _ _ rfl; omega), kKQ7_351.cast (by have := kKR_351.1 15 _ _ rfl; have := kKR_351.1 16 _ _ rfl; have := kKR_351.1 19 _ _ rfl; omega), kKQ8_351.cast (by have := kKR_351.1 15 _ _ rfl; have := kKR_351.1 16 _ _ rfl; have := kKR_351.1 19 _ _ rfl; omega), kKQ10_351.cast (by have := kKR_351.1 15 _ _ rfl; have := kKR_351.1 16 _ _ rfl; have := kKR_351.1 19 _ _ rfl; omega), kKQ11_351.cast (by have := kKR_351.1 15 _ _ rfl; have := kKR_351.1 16 _ _ rfl; have := kKR_351.1 19 _ _ rfl; omega), kKQ12_351.cast (by have := kKR_351.1 15 _ _ rfl; have := kKR_351.1 16 _ _ rfl; have := kKR_351.1 19 _ _ rfl; omega), (by have := kKR_351.1 15 _ _ rfl; have := kKR_351.1 16 _ _ rfl; have := kKR_351.1 19 _ _ rfl; omega)⟩)⟩
              · refine mv_sipush (v := 880) d_TrustDeskModel_stops_118 (by decide) ?_
                refine mv_iload_n d_TrustDeskModel_stops_121 rfl rfl ?_
                refine mv_iadd d_TrustDeskModel_stops_122 ?_
                refine mv_istore_n (lv' := [(3, .int (880 + i2_351)), (2, .int i2_351), (0, .ref o0), (1, .int x1)]) d_TrustDeskModel_stops_123 rfl (by decide) rfl ?_
                refine mv_bipush (v := 20) d_TrustDeskModel_stops_124 (by decide) ?_
                refine mv_iload_n d_TrustDeskModel_stops_126 rfl rfl ?_
                refine mv_imul d_TrustDeskModel_stops_127 ?_
                refine mv_iload_n d_TrustDeskModel_stops_128 rfl rfl ?_
                refine mv_iadd d_TrustDeskModel_stops_129 ?_
                refine mv_istore (lv' := [(4, .int ((20 * x1) + i2_351)), (3, .int (880 + i2_351)), (2, .int i2_351), (0, .ref o0), (1, .int x1)]) d_TrustDeskModel_stops_130 (by decide) rfl ?_
                refine mv_aload_n d_TrustDeskModel_stops_132 rfl rfl ?_
                obtain ⟨a358, q357, t_a358⟩ := tm_atR I_351 h_q0_351 (k := 7) rfl
                refine tr_getK q357 d_TrustDeskModel_stops_133 f_TrustDeskModel_26_13 ?_
                refine mv_iload d_TrustDeskModel_stops_136 rfl ?_
                refine mv_aload_n d_TrustDeskModel_stops_138 rfl rfl ?_
                refine tr_getK (k := 7) q357 d_TrustDeskModel_stops_139 f_TrustDeskModel_26_13 ?_
                refine mv_iload_n d_TrustDeskModel_stops_142 rfl rfl ?_
                have b359 : (880 + i2_351 : Int32).toInt = (880 + i2_351.toInt) := mz_add2 (by decide) rfl (by have := kKR_351.1 15 _ _ rfl; have := kKR_351.1 16 _ _ rfl; have := kKR_351.1 19 _ _ rfl; omega) (by have := kKR_351.1 15 _ _ rfl; have := kKR_351.1 16 _ _ rfl; have := kKR_351.1 19 _ _ rfl; omega)
                refine tr_ialdR (o := o0) (k := 7) I_351 q357 t_a358 (by decide) d_TrustDeskModel_stops_143 (vp_in_iff.mpr (by have := kKR_351.1 15 _ _ rfl; have := kKR_351.1 16 _ _ rfl; have := kKR_351.1 19 _ _ rfl; omega)) (fun v360 e361 => ?_)
                have b362 : (20 * x1 : Int32).toInt = (20 * x1.toInt) := mz_mul2 (by decide) rfl (by have := kKR_351.1 15 _ _ rfl; have := kKR_351.1 16 _ _ rfl; have := kKR_351.1 19 _ _ rfl; omega) (by have := kKR_351.1 15 _ _ rfl; have := kKR_351.1 16 _ _ rfl; have := kKR_351.1 19 _ _ rfl; omega)
                have b363 : ((20 * x1) + i2_351 : Int32).toInt = ((20 * x1.toInt) + i2_351.toInt) := mz_add2 b362 rfl (by have := kKR_351.1 15 _ _ rfl; have := kKR_351.1 16 _ _ rfl; have := kKR_351.1 19 _ _ rfl; omega) (by have := kKR_351.1 15 _ _ rfl; have := kKR_351.1 16 _ _ rfl; have := kKR_351.1 19 _ _ rfl; omega)
                refine tr_iastR (k := 7) I_351 kKR_351 (I_351.up h_o0) q357 t_a358 (by decide) (by decide) (fun lo hi h => by cases h) (Or.inl (by decide)) d_TrustDeskModel_stops_144 (vp_in_iff.mpr (by have := kKR_351.1 15 _ _ rfl; have := kKR_351.1 16 _ _ rfl; have := kKR_351.1 19 _ _ rfl; omega)) (fun M364 I365 K366 R367 E368 A369 V370 => ?_)
                have z371 := (V370 19)
                have z372 := (A369 5 (by decide) rfl 44)
                have z373 := (A369 6 (by decide) rfl 44)
                have z374 := (A369 6 (by decide) rfl x1.toNatClampNeg)
                have K375 : rcp M0 M364 o0 4 18480 (420 * x1.toNatClampNeg) i2_345.toInt := kKQ4_351.same (((sA_a A369 (by decide)) : sA [4] _ _ _) 4 rfl)
                have K376 : rcp M0 M364 o0 7 880 (20 * x1.toNatClampNeg) (i2_351.toInt + 1) := kKQ7_351.st E368 (by have := kKR_351.1 15 _ _ rfl; have := kKR_351.1 16 _ _ rfl; have := kKR_351.1 19 _ _ rfl; omega) (by have := mz_nat9 (i := ((20 * x1) + i2_351)) (by have := kKR_351.1 15 _ _ rfl; have := kKR_351.1 16 _ _ rfl; have := kKR_351.1 19 _ _ rfl; omega); have := mz_nat9 (i := x1) (by have := kKR_351.1 15 _ _ rfl; have := kKR_351.1 16 _ _ rfl; have := kKR_351.1 19 _ _ rfl; omega); have := kKR_351.1 15 _ _ rfl; have := kKR_351.1 16 _ _ rfl; have := kKR_351.1 19 _ _ rfl; omega) e361 (by have := mz_nat9 (i := (880 + i2_351)) (by have := kKR_351.1 15 _ _ rfl; have := kKR_351.1 16 _ _ rfl; have := kKR_351.1 19 _ _ rfl; omega); have := kKR_351.1 15 _ _ rfl; have := kKR_351.1 16 _ _ rfl; have := kKR_351.1 19 _ _ rfl; omega) (by have := mz_nat9 (i := x1) (by have := kKR_351.1 15 _ _ rfl; have := kKR_351.1 16 _ _ rfl; have := kKR_351.1 19 _ _ rfl; omega); have := kKR_351.1 15 _ _ rfl; have := kKR_351.1 16 _ _ rfl; have := kKR_351.1 19 _ _ rfl; omega) rfl
                have K377 : rcp M0 M364 o0 8 880 (20 * x1.toNatClampNeg) i2_351.toInt := kKQ8_351.same (((sA_a A369 (by decide)) : sA [8] _ _ _) 8 rfl)
                have K378 : rcp M0 M364 o0 10 880 (20 * x1.toNatClampNeg) i2_351.toInt := kKQ10_351.same (((sA_a A369 (by decide)) : sA [10] _ _ _) 10 rfl)
                have K379 : rcp M0 M364 o0 11 880 (20 * x1.toNatClampNeg) i2_351.toInt := kKQ11_351.same (((sA_a A369 (by decide)) : sA [11] _ _ _) 11 rfl)
                have K380 : rcp M0 M364 o0 12 880 (20 * x1.toNatClampNeg) i2_351.toInt := kKQ12_351.same (((sA_a A369 (by decide)) : sA [12] _ _ _) 12 rfl)
                refine mv_aload_n d_TrustDeskModel_stops_145 rfl rfl ?_
                obtain ⟨a382, q381, t_a382⟩ := tm_atR I365 h_q0_351 (k := 8) rfl
                refine tr_getK q381 d_TrustDeskModel_stops_146 f_TrustDeskModel_29_13 ?_
                refine mv_iload d_TrustDeskModel_stops_149 rfl ?_
                refine mv_aload_n d_TrustDeskModel_stops_151 rfl rfl ?_
                refine tr_getK (k := 8) q381 d_TrustDeskModel_stops_152 f_TrustDeskModel_29_13 ?_
                refine mv_iload_n d_TrustDeskModel_stops_155 rfl rfl ?_
                have b383 : (880 + i2_351 : Int32).toInt = (880 + i2_351.toInt) := mz_add2 (by decide) rfl (by have := R367.1 15 _ _ rfl; have := R367.1 16 _ _ rfl; have := R367.1 19 _ _ rfl; omega) (by have := R367.1 15 _ _ rfl; have := R367.1 16 _ _ rfl; have := R367.1 19 _ _ rfl; omega)
                refine tr_ialdR (o := o0) (k := 8) I365 q381 t_a382 (by decide) d_TrustDeskModel_stops_156 (vp_in_iff.mpr (by have := R367.1 15 _ _ rfl; have := R367.1 16 _ _ rfl; have := R367.1 19 _ _ rfl; omega)) (fun v384 e385 => ?_)
                have := R367.a (k := 8) rfl ((880 + i2_351) : Int32).toNatClampNeg
                have b386 : (20 * x1 : Int32).toInt = (20 * x1.toInt) := mz_mul2 (by decide) rfl (by have := R367.1 15 _ _ rfl; have := R367.1 16 _ _ rfl; have := R367.1 19 _ _ rfl; omega) (by have := R367.1 15 _ _ rfl; have := R367.1 16 _ _ rfl; have := R367.1 19 _ _ rfl; omega)
                have b387 : ((20 * x1) + i2_351 : Int32).toInt = ((20 * x1.toInt) + i2_351.toInt) := mz_add2 b386 rfl (by have := R367.1 15 _ _ rfl; have := R367.1 16 _ _ rfl; have := R367.1 19 _ _ rfl; omega) (by have := R367.1 15 _ _ rfl; have := R367.1 16 _ _ rfl; have := R367.1 19 _ _ rfl; omega)
                refine tr_iastR (k := 8) I365 R367 (I365.up h_o0) q381 t_a382 (by decide) (by decide) (fun lo hi h => by cases h; have := R367.1 15 _ _ rfl; have := R367.1 16 _ _ rfl; have := R367.1 19 _ _ rfl; exact ⟨by show ((-1) : Int) ≤ v384.toInt; omega, by show v384.toInt ≤ (720 : Int); omega⟩) (Or.inl (by decide)) d_TrustDeskModel_stops_157 (vp_in_iff.mpr (by have := R367.1 15 _ _ rfl; have := R367.1 16 _ _ rfl; have := R367.1 19 _ _ rfl; omega)) (fun M388 I389 K390 R391 E392 A393 V394 => ?_)
                have z395 := (V394 19).trans z371
                have z396 := (A393 5 (by decide) rfl 44).trans z372
                have z397 := (A393 6 (by decide) rfl 44).trans z373
                have z398 := (A393 6 (by decide) rfl x1.toNatClampNeg).trans z374
                have K399 : rcp M0 M388 o0 4 18480 (420 * x1.toNatClampNeg) i2_345.toInt := K375.same (((sA_a A393 (by decide)) : sA [4] _ _ _) 4 rfl)
                have K400 : rcp M0 M388 o0 7 880 (20 * x1.toNatClampNeg) (i2_351.toInt + 1) := K376.same (((sA_a A393 (by decide)) : sA [7] _ _ _) 7 rfl)
                have K401 : rcp M0 M388 o0 8 880 (20 * x1.toNatClampNeg) (i2_351.toInt + 1) := K377.st E392 (by have := R367.1 15 _ _ rfl; have := R367.1 16 _ _ rfl; have := R367.1 19 _ _ rfl; omega) (by have := mz_nat9 (i := ((20 * x1) + i2_351)) (by have := R367.1 15 _ _ rfl; have := R367.1 16 _ _ rfl; have := R367.1 19 _ _ rfl; omega); have := mz_nat9 (i := x1) (by have := R367.1 15 _ _ rfl; have := R367.1 16 _ _ rfl; have := R367.1 19 _ _ rfl; omega); have := R367.1 15 _ _ rfl; have := R367.1 16 _ _ rfl; have := R367.1 19 _ _ rfl; omega) e385 (by have := mz_nat9 (i := (880 + i2_351)) (by have := R367.1 15 _ _ rfl; have := R367.1 16 _ _ rfl; have := R367.1 19 _ _ rfl; omega); have := R367.1 15 _ _ rfl; have := R367.1 16 _ _ rfl; have := R367.1 19 _ _ rfl; omega) (by have := mz_nat9 (i := x1) (by have := R367.1 15 _ _ rfl; have := R367.1 16 _ _ rfl; have := R367.1 19 _ _ rfl; omega); have := R367.1 15 _ _ rfl; have := R367.1 16 _ _ rfl; have := R367.1 19 _ _ rfl; omega) rfl
                have K402 : rcp M0 M388 o0 10 880 (20 * x1.toNatClampNeg) i2_351.toInt := K378.same (((sA_a A393 (by decide)) : sA [10] _ _ _) 10 rfl)
                have K403 : rcp M0 M388 o0 11 880 (20 * x1.toNatClampNeg) i2_351.toInt := K379.same (((sA_a A393 (by decide)) : sA [11] _ _ _) 11 rfl)
                have K404 : rcp M0 M388 o0 12 880 (20 * x1.toNatClampNeg) i2_351.toInt := K380.same (((sA_a A393 (by decide)) : sA [12] _ _ _) 12 rfl)
                clear z372 z373 z374
                refine mv_aload_n d_TrustDeskModel_stops_158 rfl rfl ?_
                obtain ⟨a406, q405, t_a406⟩ := tm_atR I389 h_q0_351 (k := 9) rfl
                refine tr_getK q405 d_TrustDeskModel_stops_159 f_TrustDeskModel_32_13 ?_
                refine mv_iload d_TrustDeskModel_stops_162 rfl ?_
                refine mv_aload_n d_TrustDeskModel_stops_164 rfl rfl ?_
                refine tr_getK (k := 9) q405 d_TrustDeskModel_stops_165 f_TrustDeskModel_32_13 ?_
                refine mv_iload_n d_TrustDeskModel_stops_168 rfl rfl ?_
                have b407 : (880 + i2_351 : Int32).toInt = (880 + i2_351.toInt) := mz_add2 (by decide) rfl (by have := R391.1 15 _ _ rfl; have := R391.1 16 _ _ rfl; have := R391.1 19 _ _ rfl; omega) (by have := R391.1 15 _ _ rfl; have := R391.1 16 _ _ rfl; have := R391.1 19 _ _ rfl; omega)
                refine tr_ialdR (o := o0) (k := 9) I389 q405 t_a406 (by decide) d_TrustDeskModel_stops_169 (vp_in_iff.mpr (by have := R391.1 15 _ _ rfl; have := R391.1 16 _ _ rfl; have := R391.1 19 _ _ rfl; omega)) (fun v408 e409 => ?_)
                have b410 : (20 * x1 : Int32).toInt = (20 * x1.toInt) := mz_mul2 (by decide) rfl (by have := R391.1 15 _ _ rfl; have := R391.1 16 _ _ rfl; have := R391.1 19 _ _ rfl; omega) (by have := R391.1 15 _ _ rfl; have := R391.1 16 _ _ rfl; have := R391.1 19 _ _ rfl; omega)
                have b411 : ((20 * x1) + i2_351 : Int32).toInt = ((20 * x1.toInt) + i2_351.toInt) := mz_add2 b410 rfl (by have := R391.1 15 _ _ rfl; have := R391.1 16 _ _ rfl; have := R391.1 19 _ _ rfl; omega) (by have := R391.1 15 _ _ rfl; have := R391.1 16 _ _ rfl; have := R391.1 19 _ _ rfl; omega)
                refine tr_iastR (k := 9) I389 R391 (I389.up h_o0) q405 t_a406 (by decide) (by decide) (fun lo hi h => by cases h) (Or.inl (by decide)) d_TrustDeskModel_stops_170 (vp_in_iff.mpr (by have := R391.1 15 _ _ rfl; have := R391.1 16 _ _ rfl; have := R391.1 19 _ _ rfl; omega)) (fun M412 I413 K414 R415 E416 A417 V418 => ?_)
                have z419 := (V418 19).trans z395
                have z420 := (A417 5 (by decide) rfl 44).trans z396
                have z421 := (A417 6 (by decide) rfl 44).trans z397
                have z422 := (A417 6 (by decide) rfl x1.toNatClampNeg).trans z398
                have K423 : rcp M0 M412 o0 4 18480 (420 * x1.toNatClampNeg) i2_345.toInt := K399.same (((sA_a A417 (by decide)) : sA [4] _ _ _) 4 rfl)
                have K424 : rcp M0 M412 o0 7 880 (20 * x1.toNatClampNeg) (i2_351.toInt + 1) := K400.same (((sA_a A417 (by decide)) : sA [7] _ _ _) 7 rfl)
                have K425 : rcp M0 M412 o0 8 880 (20 * x1.toNatClampNeg) (i2_351.toInt + 1) := K401.same (((sA_a A417 (by decide)) : sA [8] _ _ _) 8 rfl)
                have K426 : rcp M0 M412 o0 10 880 (20 * x1.toNatClampNeg) i2_351.toInt := K402.same (((sA_a A417 (by decide)) : sA [10] _ _ _) 10 rfl)
                have K427 : rcp M0 M412 o0 11 880 (20 * x1.toNatClampNeg) i2_351.toInt := K403.same (((sA_a A417 (by decide)) : sA [11] _ _ _) 11 rfl)
                have K428 : rcp M0 M412 o0 12 880 (20 * x1.toNatClampNeg) i2_351.toInt := K404.same (((sA_a A417 (by decide)) : sA [12] _ _ _) 12 rfl)
                clear z396 z397 z398
                refine mv_aload_n d_TrustDeskModel_stops_171 rfl rfl ?_
                obtain ⟨a430, q429, t_a430⟩ := tm_atR I413 h_q0_351 (k := 10) rfl
                refine tr_getK q429 d_TrustDeskModel_stops_172 f_TrustDeskModel_35_13 ?_
                refine mv_iload d_TrustDeskModel_stops_175 rfl ?_
                refine mv_aload_n d_TrustDeskModel_stops_177 rfl rfl ?_
                refine tr_getK (k := 10) q429 d_TrustDeskModel_stops_178 f_TrustDeskModel_35_13 ?_
                refine mv_iload_n d_TrustDeskModel_stops_181 rfl rfl ?_
                have b431 : (880 + i2_351 : Int32).toInt = (880 + i2_351.toInt) := mz_add2 (by decide) rfl (by have := R415.1 15 _ _ rfl; have := R415.1 16 _ _ rfl; have := R415.1 19 _ _ rfl; omega) (by have := R415.1 15 _ _ rfl; have := R415.1 16 _ _ rfl; have := R415.1 19 _ _ rfl; omega)
                refine tr_ialdR (o := o0) (k := 10) I413 q429 t_a430 (by decide) d_TrustDeskModel_stops_182 (vp_in_iff.mpr (by have := R415.1 15 _ _ rfl; have := R415.1 16 _ _ rfl; have := R415.1 19 _ _ rfl; omega)) (fun v432 e433 => ?_)
                have := R415.a (k := 10) rfl ((880 + i2_351) : Int32).toNatClampNeg
                have b434 : (20 * x1 : Int32).toInt = (20 * x1.toInt) := mz_mul2 (by decide) rfl (by have := R415.1 15 _ _ rfl; have := R415.1 16 _ _ rfl; have := R415.1 19 _ _ rfl; omega) (by have := R415.1 15 _ _ rfl; have := R415.1 16 _ _ rfl; have := R415.1 19 _ _ rfl; omega)
                have b435 : ((20 * x1) + i2_351 : Int32).toInt = ((20 * x1.toInt) + i2_351.toInt) := mz_add2 b434 rfl (by have := R415.1 15 _ _ rfl; have := R415.1 16 _ _ rfl; have := R415.1 19 _ _ rfl; omega) (by have := R415.1 15 _ _ rfl; have := R415.1 16 _ _ rfl; have := R415.1 19 _ _ rfl; omega)
                refine tr_iastR (k := 10) I413 R415 (I413.up h_o0) q429 t_a430 (by decide) (by decide) (fun lo hi h => by cases h; have := R415.1 15 _ _ rfl; have := R415.1 16 _ _ rfl; have := R415.1 19 _ _ rfl; exact ⟨by show (0 : Int) ≤ v432.toInt; omega, by show v432.toInt ≤ (400 : Int); omega⟩) (Or.inl (by decide)) d_TrustDeskModel_stops_183 (vp_in_iff.mpr (by have := R415.1 15 _ _ rfl; have := R415.1 16 _ _ rfl; have := R415.1 19 _ _ rfl; omega)) (fun M436 I437 K438 R439 E440 A441 V442 => ?_)
                have z443 := (V442 19).trans z419
                have z444 := (A441 5 (by decide) rfl 44).trans z420
                have z445 := (A441 6 (by decide) rfl 44).trans z421
                have z446 := (A441 6 (by decide) rfl x1.toNatClampNeg).trans z422
                have K447 : rcp M0 M436 o0 4 18480 (420 * x1.toNatClampNeg) i2_345.toInt := K423.same (((sA_a A441 (by decide)) : sA [4] _ _ _) 4 rfl)
                have K448 : rcp M0 M436 o0 7 880 (20 * x1.toNatClampNeg) (i2_351.toInt + 1) := K424.same (((sA_a A441 (by decide)) : sA [7] _ _ _) 7 rfl)
                have K449 : rcp M0 M436 o0 8 880 (20 * x1.toNatClampNeg) (i2_351.toInt + 1) := K425.same (((sA_a A441 (by decide)) : sA [8] _ _ _) 8 rfl)
                have K450 : rcp M0 M436 o0 10 880 (20 * x1.toNatClampNeg) (i2_351.toInt + 1) := K426.st E440 (by have := R415.1 15 _ _ rfl; have := R415.1 16 _ _ rfl; have := R415.1 19 _ _ rfl; omega) (by have := mz_nat9 (i := ((20 * x1) + i2_351)) (by have := R415.1 15 _ _ rfl; have := R415.1 16 _ _ rfl; have := R415.1 19 _ _ rfl; omega); have := mz_nat9 (i := x1) (by have := R415.1 15 _ _ rfl; have := R415.1 16 _ _ rfl; have := R415.1 19 _ _ rfl; omega); have := R415.1 15 _ _ rfl; have := R415.1 16 _ _ rfl; have := R415.1 19 _ _ rfl; omega) e433 (by have := mz_nat9 (i := (880 + i2_351)) (by have := R415.1 15 _ _ rfl; have := R415.1 16 _ _ rfl; have := R415.1 19 _ _ rfl; omega); have := R415.1 15 _ _ rfl; have := R415.1 16 _ _ rfl; have := R415.1 19 _ _ rfl; omega) (by have := mz_nat9 (i := x1) (by have := R415.1 15 _ _ rfl; have := R415.1 16 _ _ rfl; have := R415.1 19 _ _ rfl; omega); have := R415.1 15 _ _ rfl; have := R415.1 16 _ _ rfl; have := R415.1 19 _ _ rfl; omega) rfl
                have K451 : rcp M0 M436 o0 11 880 (20 * x1.toNatClampNeg) i2_351.toInt := K427.same (((sA_a A441 (by decide)) : sA [11] _ _ _) 11 rfl)
                have K452 : rcp M0 M436 o0 12 880 (20 * x1.toNatClampNeg) i2_351.toInt := K428.same (((sA_a A441 (by decide)) : sA [12] _ _ _) 12 rfl)
                clear z420 z421 z422
                refine mv_aload_n d_TrustDeskModel_stops_184 rfl rfl ?_
                obtain ⟨a454, q453, t_a454⟩ := tm_atR I437 h_q0_351 (k := 11) rfl
                refine tr_getK q453 d_TrustDeskModel_stops_185 f_TrustDeskModel_38_13 ?_
                refine mv_iload d_TrustDeskModel_stops_188 rfl ?_
                refine mv_aload_n d_TrustDeskModel_stops_190 rfl rfl ?_
                refine tr_getK (k := 11) q453 d_TrustDeskModel_stops_191 f_TrustDeskModel_38_13 ?_
                refine mv_iload_n d_TrustDeskModel_stops_194 rfl rfl ?_
                have b455 : (880 + i2_351 : Int32).toInt = (880 + i2_351.toInt) := mz_add2 (by decide) rfl (by have := R439.1 15 _ _ rfl; have := R439.1 16 _ _ rfl; have := R439.1 19 _ _ rfl; omega) (by have := R439.1 15 _ _ rfl; have := R439.1 16 _ _ rfl; have := R439.1 19 _ _ rfl; omega)
                refine tr_ialdR (o := o0) (k := 11) I437 q453 t_a454 (by decide) d_TrustDeskModel_stops_195 (vp_in_iff.mpr (by have := R439.1 15 _ _ rfl; have := R439.1 16 _ _ rfl; have := R439.1 19 _ _ rfl; omega)) (fun v456 e457 => ?_)
                have := R439.a (k := 11) rfl ((880 + i2_351) : Int32).toNatClampNeg
                have b458 : (20 * x1 : Int32).toInt = (20 * x1.toInt) := mz_mul2 (by decide) rfl (by have := R439.1 15 _ _ rfl; have := R439.1 16 _ _ rfl; have := R439.1 19 _ _ rfl; omega) (by have := R439.1 15 _ _ rfl; have := R439.1 16 _ _ rfl; have := R439.1 19 _ _ rfl; omega)
                have b459 : ((20 * x1) + i2_351 : Int32).toInt = ((20 * x1.toInt) + i2_351.toInt) := mz_add2 b458 rfl (by have := R439.1 15 _ _ rfl; have := R439.1 16 _ _ rfl; have := R439.1 19 _ _ rfl; omega) (by have := R439.1 15 _ _ rfl; have := R439.1 16 _ _ rfl; have := R439.1 19 _ _ rfl; omega)
                refine tr_iastR (k := 11) I437 R439 (I437.up h_o0) q453 t_a454 (by decide) (by decide) (fun lo hi h => by cases h; have := R439.1 15 _ _ rfl; have := R439.1 16 _ _ rfl; have := R439.1 19 _ _ rfl; exact ⟨by show (0 : Int) ≤ v456.toInt; omega, by show v456.toInt ≤ (400 : Int); omega⟩) (Or.inl (by decide)) d_TrustDeskModel_stops_196 (vp_in_iff.mpr (by have := R439.1 15 _ _ rfl; have := R439.1 16 _ _ rfl; have := R439.1 19 _ _ rfl; omega)) (fun M460 I461 K462 R463 E464 A465 V466 => ?_)
                have z467 := (V466 19).trans z443
                have z468 := (A465 5 (by decide) rfl 44).trans z444
                have z469 := (A465 6 (by decide) rfl 44).trans z445
                have z470 := (A465 6 (by decide) rfl x1.toNatClampNeg).trans z446
                have K471 : rcp M0 M460 o0 4 18480 (420 * x1.toNatClampNeg) i2_345.toInt := K447.same (((sA_a A465 (by decide)) : sA [4] _ _ _) 4 rfl)
                have K472 : rcp M0 M460 o0 7 880 (20 * x1.toNatClampNeg) (i2_351.toInt + 1) := K448.same (((sA_a A465 (by decide)) : sA [7] _ _ _) 7 rfl)
                have K473 : rcp M0 M460 o0 8 880 (20 * x1.toNatClampNeg) (i2_351.toInt + 1) := K449.same (((sA_a A465 (by decide)) : sA [8] _ _ _) 8 rfl)
                have K474 : rcp M0 M460 o0 10 880 (20 * x1.toNatClampNeg) (i2_351.toInt + 1) := K450.same (((sA_a A465 (by decide)) : sA [10] _ _ _) 10 rfl)
                have K475 : rcp M0 M460 o0 11 880 (20 * x1.toNatClampNeg) (i2_351.toInt + 1) := K451.st E464 (by have := R439.1 15 _ _ rfl; have := R439.1 16 _ _ rfl; have := R439.1 19 _ _ rfl; omega) (by have := mz_nat9 (i := ((20 * x1) + i2_351)) (by have := R439.1 15 _ _ rfl; have := R439.1 16 _ _ rfl; have := R439.1 19 _ _ rfl; omega); have := mz_nat9 (i := x1) (by have := R439.1 15 _ _ rfl; have := R439.1 16 _ _ rfl; have := R439.1 19 _ _ rfl; omega); have := R439.1 15 _ _ rfl; have := R439.1 16 _ _ rfl; have := R439.1 19 _ _ rfl; omega) e457 (by have := mz_nat9 (i := (880 + i2_351)) (by have := R439.1 15 _ _ rfl; have := R439.1 16 _ _ rfl; have := R439.1 19 _ _ rfl; omega); have := R439.1 15 _ _ rfl; have := R439.1 16 _ _ rfl; have := R439.1 19 _ _ rfl; omega) (by have := mz_nat9 (i := x1) (by have := R439.1 15 _ _ rfl; have := R439.1 16 _ _ rfl; have := R439.1 19 _ _ rfl; omega); have := R439.1 15 _ _ rfl; have := R439.1 16 _ _ rfl; have := R439.1 19 _ _ rfl; omega) rfl
                have K476 : rcp M0 M460 o0 12 880 (20 * x1.toNatClampNeg) i2_351.toInt := K452.same (((sA_a A465 (by decide)) : sA [12] _ _ _) 12 rfl)
                clear z444 z445 z446
                refine mv_aload_n d_TrustDeskModel_stops_197 rfl rfl ?_
                obtain ⟨a478, q477, t_a478⟩ := tm_atR I461 h_q0_351 (k := 12) rfl
                refine tr_getK q477 d_TrustDeskModel_stops_198 f_TrustDeskModel_41_13 ?_
                refine mv_iload d_TrustDeskModel_stops_201 rfl ?_
                refine mv_aload_n d_TrustDeskModel_stops_203 rfl rfl ?_
                refine tr_getK (k := 12) q477 d_TrustDeskModel_stops_204 f_TrustDeskModel_41_13 ?_
                refine mv_iload_n d_TrustDeskModel_stops_207 rfl rfl ?_
                have b479 : (880 + i2_351 : Int32).toInt = (880 + i2_351.toInt) := mz_add2 (by decide) rfl (by have := R463.1 15 _ _ rfl; have := R463.1 16 _ _ rfl; have := R463.1 19 _ _ rfl; omega) (by have := R463.1 15 _ _ rfl; have := R463.1 16 _ _ rfl; have := R463.1 19 _ _ rfl; omega)
                refine tr_ialdR (o := o0) (k := 12) I461 q477 t_a478 (by decide) d_TrustDeskModel_stops_208 (vp_in_iff.mpr (by have := R463.1 15 _ _ rfl; have := R463.1 16 _ _ rfl; have := R463.1 19 _ _ rfl; omega)) (fun v480 e481 => ?_)
                have := R463.a (k := 12) rfl ((880 + i2_351) : Int32).toNatClampNeg
                have b482 : (20 * x1 : Int32).toInt = (20 * x1.toInt) := mz_mul2 (by decide) rfl (by have := R463.1 15 _ _ rfl; have := R463.1 16 _ _ rfl; have := R463.1 19 _ _ rfl; omega) (by have := R463.1 15 _ _ rfl; have := R463.1 16 _ _ rfl; have := R463.1 19 _ _ rfl; omega)
                have b483 : ((20 * x1) + i2_351 : Int32).toInt = ((20 * x1.toInt) + i2_351.toInt) := mz_add2 b482 rfl (by have := R463.1 15 _ _ rfl; have := R463.1 16 _ _ rfl; have := R463.1 19 _ _ rfl; omega) (by have := R463.1 15 _ _ rfl; have := R463.1 16 _ _ rfl; have := R463.1 19 _ _ rfl; omega)
                refine tr_iastR (k := 12) I461 R463 (I461.up h_o0) q477 t_a478 (by decide) (by decide) (fun lo hi h => by cases h; have := R463.1 15 _ _ rfl; have := R463.1 16 _ _ rfl; have := R463.1 19 _ _ rfl; exact ⟨by show (0 : Int) ≤ v480.toInt; omega, by show v480.toInt ≤ (400 : Int); omega⟩) (Or.inl (by decide)) d_TrustDeskModel_stops_209 (vp_in_iff.mpr (by have := R463.1 15 _ _ rfl; have := R463.1 16 _ _ rfl; have := R463.1 19 _ _ rfl; omega)) (fun M484 I485 K486 R487 E488 A489 V490 => ?_)
                have z491 := (V490 19).trans z467
                have z492 := (A489 5 (by decide) rfl 44).trans z468
                have z493 := (A489 6 (by decide) rfl 44).trans z469
                have z494 := (A489 6 (by decide) rfl x1.toNatClampNeg).trans z470
                have K495 : rcp M0 M484 o0 4 18480 (420 * x1.toNatClampNeg) i2_345.toInt := K471.same (((sA_a A489 (by decide)) : sA [4] _ _ _) 4 rfl)
                have K496 : rcp M0 M484 o0 7 880 (20 * x1.toNatClampNeg) (i2_351.toInt + 1) := K472.same (((sA_a A489 (by decide)) : sA [7] _ _ _) 7 rfl)
                have K497 : rcp M0 M484 o0 8 880 (20 * x1.toNatClampNeg) (i2_351.toInt + 1) := K473.same (((sA_a A489 (by decide)) : sA [8] _ _ _) 8 rfl)
                have K498 : rcp M0 M484 o0 10 880 (20 * x1.toNatClampNeg) (i2_351.toInt + 1) := K474.same (((sA_a A489 (by decide)) : sA [10] _ _ _) 10 rfl)
                have K499 : rcp M0 M484 o0 11 880 (20 * x1.toNatClampNeg) (i2_351.toInt + 1) := K475.same (((sA_a A489 (by decide)) : sA [11] _ _ _) 11 rfl)
                have K500 : rcp M0 M484 o0 12 880 (20 * x1.toNatClampNeg) (i2_351.toInt + 1) := K476.st E488 (by have := R463.1 15 _ _ rfl; have := R463.1 16 _ _ rfl; have := R463.1 19 _ _ rfl; omega) (by have := mz_nat9 (i := ((20 * x1) + i2_351)) (by have := R463.1 15 _ _ rfl; have := R463.1 16 _ _ rfl; have := R463.1 19 _ _ rfl; omega); have := mz_nat9 (i := x1) (by have := R463.1 15 _ _ rfl; have := R463.1 16 _ _ rfl; have := R463.1 19 _ _ rfl; omega); have := R463.1 15 _ _ rfl; have := R463.1 16 _ _ rfl; have := R463.1 19 _ _ rfl; omega) e481 (by have := mz_nat9 (i := (880 + i2_351)) (by have := R463.1 15 _ _ rfl; have := R463.1 16 _ _ rfl; have := R463.1 19 _ _ rfl; omega); have := R463.1 15 _ _ rfl; have := R463.1 16 _ _ rfl; have := R463.1 19 _ _ rfl; omega) (by have := mz_nat9 (i := x1) (by have := R463.1 15 _ _ rfl; have := R463.1 16 _ _ rfl; have := R463.1 19 _ _ rfl; omega); have := R463.1 15 _ _ rfl; have := R463.1 16 _ _ rfl; have := R463.1 19 _ _ rfl; omega) rfl
                clear z468 z469 z470
                refine mv_iinc (v := (i2_351 + 1)) (lv' := [(2, .int (i2_351 + 1)), (4, .int ((20 * x1) + i2_351)), (3, .int (880 + i2_351)), (0, .ref o0), (1, .int x1)]) d_TrustDeskModel_stops_210 rfl rfl (by decide) rfl ?_
                refine mv_goto (tgt := 107) d_TrustDeskModel_stops_213 (by decide) ?_
                have K501 : rcp M0 M484 o0 7 880 (20 * x1.toNatClampNeg) ((i2_351 + 1).toInt) := K496.cast (by have := R487.1 15 _ _ rfl; have := R487.1 16 _ _ rfl; have := R487.1 19 _ _ rfl; omega)
                have K502 : rcp M0 M484 o0 8 880 (20 * x1.toNatClampNeg) ((i2_351 + 1).toInt) := K497.cast (by have := R487.1 15 _ _ rfl; have := R487.1 16 _ _ rfl; have := R487.1 19 _ _ rfl; omega)
                have K503 : rcp M0 M484 o0 10 880 (20 * x1.toNatClampNeg) ((i2_351 + 1).toInt) := K498.cast (by have := R487.1 15 _ _ rfl; have := R487.1 16 _ _ rfl; have := R487.1 19 _ _ rfl; omega)
                have K504 : rcp M0 M484 o0 11 880 (20 * x1.toNatClampNeg) ((i2_351 + 1).toInt) := K499.cast (by have := R487.1 15 _ _ rfl; have := R487.1 16 _ _ rfl; have := R487.1 19 _ _ rfl; omega)
                have K505 : rcp M0 M484 o0 12 880 (20 * x1.toNatClampNeg) ((i2_351 + 1).toInt) := K500.cast (by have := R487.1 15 _ _ rfl; have := R487.1 16 _ _ rfl; have := R487.1 19 _ _ rfl; omega)
                refine mv_locals (lv' := [(2, .int (i2_351 + 1)), (0, .ref o0), (1, .int x1)]) (by intro q hq; simp only [List.mem_cons, List.not_mem_nil, or_false] at hq; rcases hq with rfl | rfl | rfl <;> rfl) ?_
                have b506 : (i2_351 + 1).toInt = i2_351.toInt + 1 := mz_addn 1 1 (by decide) (by have := mz_lo i2_351; omega) (by have := mz_hi i2_351; omega)
                exact (ih351 (i2_351 + 1) T_351 M484 n_351 I485 h_q0_351 (by have := R487.1 15 _ _ rfl; have := R487.1 16 _ _ rfl; have := R487.1 19 _ _ rfl; first | omega | decide | exact fun h9 => absurd (by decide) h9) (by have := R487.1 15 _ _ rfl; have := R487.1 16 _ _ rfl; have := R487.1 19 _ _ rfl; first | omega | decide | exact fun h9 => absurd (by decide) h9) (by have := R487.1 15 _ _ rfl; have := R487.1 16 _ _ rfl; have := R487.1 19 _ _ rfl; first | omega | decide | exact fun h9 => absurd (by decide) h9) (by have := R487.1 15 _ _ rfl; have := R487.1 16 _ _ rfl; have := R487.1 19 _ _ rfl; first | omega | decide | exact fun h9 => absurd (by decide) h9) (by have := R487.1 15 _ _ rfl; have := R487.1 16 _ _ rfl; have := R487.1 19 _ _ rfl; first | omega | decide | exact fun h9 => absurd (by decide) h9) (by have := R487.1 15 _ _ rfl; have := R487.1 16 _ _ rfl; have := R487.1 19 _ _ rfl; first | omega | decide | exact fun h9 => absurd (by decide) h9) R487 K495 K501 K502 K503 K504 K505 (by have := R487.1 15 _ _ rfl; have := R487.1 16 _ _ rfl; have := R487.1 19 _ _ rfl; omega))
          exact mv_less (Nat.zero_le _) (Nat.zero_le _) (L107_351 4294967296 0 T_345 M_345 n_345 I_345 h_q0_345 (by have := kKR_345.1 15 _ _ rfl; have := kKR_345.1 16 _ _ rfl; have := kKR_345.1 19 _ _ rfl; first | omega | decide | exact fun h9 => absurd (by decide) h9) (by have := kKR_345.1 15 _ _ rfl; have := kKR_345.1 16 _ _ rfl; have := kKR_345.1 19 _ _ rfl; first | omega | decide | exact fun h9 => absurd (by decide) h9) (by have := kKR_345.1 15 _ _ rfl; have := kKR_345.1 16 _ _ rfl; have := kKR_345.1 19 _ _ rfl; first | omega | decide | exact fun h9 => absurd (by decide) h9) (by have := kKR_345.1 15 _ _ rfl; have := kKR_345.1 16 _ _ rfl; have := kKR_345.1 19 _ _ rfl; first | omega | decide | exact fun h9 => absurd (by decide) h9) (by have := kKR_345.1 15 _ _ rfl; have := kKR_345.1 16 _ _ rfl; have := kKR_345.1 19 _ _ rfl; first | omega | decide | exact fun h9 => absurd (by decide) h9) (by have := kKR_345.1 15 _ _ rfl; have := kKR_345.1 16 _ _ rfl; have := kKR_345.1 19 _ _ rfl; first | omega | decide | exact fun h9 => absurd (by decide) h9) kKR_345 kKQ4_345 kKQ7_345 kKQ8_345 kKQ10_345 kKQ11_345 kKQ12_345 (by show (2147483647 - (0 : Int) : Int) < _; decide))
        · refine mv_aload_n d_TrustDeskModel_stops_77 rfl rfl ?_
          obtain ⟨a508, q507, t_a508⟩ := tm_atR I_345 h_q0_345 (k := 4) rfl
          refine tr_getK q507 d_TrustDeskModel_stops_78 f_TrustDeskModel_17_13 ?_
          refine mv_sipush (v := 420) d_TrustDeskModel_stops_81 (by decide) ?_
          refine mv_iload_n d_TrustDeskModel_stops_84 rfl rfl ?_
          refine mv_imul d_TrustDeskModel_stops_85 ?_
          refine mv_iload_n d_TrustDeskModel_stops_86 rfl rfl ?_
          refine mv_iadd d_TrustDeskModel_stops_87 ?_
          refine mv_aload_n d_TrustDeskModel_stops_88 rfl rfl ?_
          refine tr_getK (k := 4) q507 d_TrustDeskModel_stops_89 f_TrustDeskModel_17_13 ?_
          refine mv_sipush (v := 18480) d_TrustDeskModel_stops_92 (by decide) ?_
          refine mv_iload_n d_TrustDeskModel_stops_95 rfl rfl ?_
          refine mv_iadd d_TrustDeskModel_stops_96 ?_
          have b509 : (18480 + i2_345 : Int32).toInt = (18480 + i2_345.toInt) := mz_add2 (by decide) rfl (by have := kKR_345.1 15 _ _ rfl; have := kKR_345.1 16 _ _ rfl; have := kKR_345.1 19 _ _ rfl; omega) (by have := kKR_345.1 15 _ _ rfl; have := kKR_345.1 16 _ _ rfl; have := kKR_345.1 19 _ _ rfl; omega)
          refine tr_ialdR (o := o0) (k := 4) I_345 q507 t_a508 (by decide) d_TrustDeskModel_stops_97 (vp_in_iff.mpr (by have := kKR_345.1 15 _ _ rfl; have := kKR_345.1 16 _ _ rfl; have := kKR_345.1 19 _ _ rfl; omega)) (fun v510 e511 => ?_)
          have := kKR_345.a (k := 4) rfl ((18480 + i2_345) : Int32).toNatClampNeg
          have b512 : (420 * x1 : Int32).toInt = (420 * x1.toInt) := mz_mul2 (by decide) rfl (by have := kKR_345.1 15 _ _ rfl; have := kKR_345.1 16 _ _ rfl; have := kKR_345.1 19 _ _ rfl; omega) (by have := kKR_345.1 15 _ _ rfl; have := kKR_345.1 16 _ _ rfl; have := kKR_345.1 19 _ _ rfl; omega)
          have b513 : ((420 * x1) + i2_345 : Int32).toInt = ((420 * x1.toInt) + i2_345.toInt) := mz_add2 b512 rfl (by have := kKR_345.1 15 _ _ rfl; have := kKR_345.1 16 _ _ rfl; have := kKR_345.1 19 _ _ rfl; omega) (by have := kKR_345.1 15 _ _ rfl; have := kKR_345.1 16 _ _ rfl; have := kKR_345.1 19 _ _ rfl; omega)
          refine tr_iastR (k := 4) I_345 kKR_345 (I_345.up h_o0) q507 t_a508 (by decide) (by decide) (fun lo hi h => by cases h; have := kKR_345.1 15 _ _ rfl; have := kKR_345.1 16 _ _ rfl; have := kKR_345.1 19 _ _ rfl; exact ⟨by show ((-9) : Int) ≤ v510.toInt; omega, by show v510.toInt ≤ (10012 : Int); omega⟩) (Or.inl (by decide)) d_TrustDeskModel_stops_98 (vp_in_iff.mpr (by have := kKR_345.1 15 _ _ rfl; have := kKR_345.1 16 _ _ rfl; have := kKR_345.1 19 _ _ rfl; omega)) (fun M514 I515 K516 R517 E518 A519 V520 => ?_)
          have z521 := (V520 19)
          have z522 := (A519 5 (by decide) rfl 44)
          have z523 := (A519 6 (by decide) rfl 44)
          have z524 := (A519 6 (by decide) rfl x1.toNatClampNeg)
          have K525 : rcp M0 M514 o0 4 18480 (420 * x1.toNatClampNeg) (i2_345.toInt + 1) := kKQ4_345.st E518 (by have := kKR_345.1 15 _ _ rfl; have := kKR_345.1 16 _ _ rfl; have := kKR_345.1 19 _ _ rfl; omega) (by have := mz_nat9 (i := ((420 * x1) + i2_345)) (by have := kKR_345.1 15 _ _ rfl; have := kKR_345.1 16 _ _ rfl; have := kKR_345.1 19 _ _ rfl; omega); have := mz_nat9 (i := x1) (by have := kKR_345.1 15 _ _ rfl; have := kKR_345.1 16 _ _ rfl; have := kKR_345.1 19 _ _ rfl; omega); have := kKR_345.1 15 _ _ rfl; have := kKR_345.1 16 _ _ rfl; have := kKR_345.1 19 _ _ rfl; omega) e511 (by have := mz_nat9 (i := (18480 + i2_345)) (by have := kKR_345.1 15 _ _ rfl; have := kKR_345.1 16 _ _ rfl; have := kKR_345.1 19 _ _ rfl; omega); have := kKR_345.1 15 _ _ rfl; have := kKR_345.1 16 _ _ rfl; have := kKR_345.1 19 _ _ rfl; omega) (by have := mz_nat9 (i := x1) (by have := kKR_345.1 15 _ _ rfl; have := kKR_345.1 16 _ _ rfl; have := kKR_345.1 19 _ _ rfl; omega); have := kKR_345.1 15 _ _ rfl; have := kKR_345.1 16 _ _ rfl; have := kKR_345.1 19 _ _ rfl; omega) rfl
          have K526 : rcp M0 M514 o0 7 880 (20 * x1.toNatClampNeg) 0 := kKQ7_345.same (((sA_a A519 (by decide)) : sA [7] _ _ _) 7 rfl)
          have K527 : rcp M0 M514 o0 8 880 (20 * x1.toNatClampNeg) 0 := kKQ8_345.same (((sA_a A519 (by decide)) : sA [8] _ _ _) 8 rfl)
          have K528 : rcp M0 M514 o0 10 880 (20 * x1.toNatClampNeg) 0 := kKQ10_345.same (((sA_a A519 (by decide)) : sA [10] _ _ _) 10 rfl)
          have K529 : rcp M0 M514 o0 11 880 (20 * x1.toNatClampNeg) 0 := kKQ11_345.same (((sA_a A519 (by decide)) : sA [11] _ _ _) 11 rfl)
          have K530 : rcp M0 M514 o0 12 880 (20 * x1.toNatClampNeg) 0 := kKQ12_345.same (((sA_a A519 (by decide)) : sA [12] _ _ _) 12 rfl)
          refine mv_iinc (v := (i2_345 + 1)) (lv' := [(2, .int (i2_345 + 1)), (0, .ref o0), (1, .int x1)]) d_TrustDeskModel_stops_99 rfl rfl (by decide) rfl ?_
          refine mv_goto (tgt := 66) d_TrustDeskModel_stops_102 (by decide) ?_
          have K531 : rcp M0 M514 o0 4 18480 (420 * x1.toNatClampNeg) ((i2_345 + 1).toInt) := K525.cast (by have := R517.1 15 _ _ rfl; have := R517.1 16 _ _ rfl; have := R517.1 19 _ _ rfl; omega)
          have b532 : (i2_345 + 1).toInt = i2_345.toInt + 1 := mz_addn 1 1 (by decide) (by have := mz_lo i2_345; omega) (by have := mz_hi i2_345; omega)
          exact (ih345 (i2_345 + 1) T_345 M514 n_345 I515 h_q0_345 (by have := R517.1 15 _ _ rfl; have := R517.1 16 _ _ rfl; have := R517.1 19 _ _ rfl; first | omega | decide | exact fun h9 => absurd (by decide) h9) (by have := R517.1 15 _ _ rfl; have := R517.1 16 _ _ rfl; have := R517.1 19 _ _ rfl; first | omega | decide | exact fun h9 => absurd (by decide) h9) (by have := R517.1 15 _ _ rfl; have := R517.1 16 _ _ rfl; have := R517.1 19 _ _ rfl; first | omega | decide | exact fun h9 => absurd (by decide) h9) (by have := R517.1 15 _ _ rfl; have := R517.1 16 _ _ rfl; have := R517.1 19 _ _ rfl; first | omega | decide | exact fun h9 => absurd (by decide) h9) (by have := R517.1 15 _ _ rfl; have := R517.1 16 _ _ rfl; have := R517.1 19 _ _ rfl; first | omega | decide | exact fun h9 => absurd (by decide) h9) (by have := R517.1 15 _ _ rfl; have := R517.1 16 _ _ rfl; have := R517.1 19 _ _ rfl; first | omega | decide | exact fun h9 => absurd (by decide) h9) R517 K531 K526 K527 K528 K529 K530 (by have := R517.1 15 _ _ rfl; have := R517.1 16 _ _ rfl; have := R517.1 19 _ _ rfl; omega))
    exact mv_less (Nat.zero_le _) (Nat.zero_le _) (L66_345 4294967296 0 T0 M326 n0 I327 h_o0 (by have := R329.1 15 _ _ rfl; have := R329.1 16 _ _ rfl; have := R329.1 19 _ _ rfl; first | omega | decide | exact fun h9 => absurd (by decide) h9) (by have := R329.1 15 _ _ rfl; have := R329.1 16 _ _ rfl; have := R329.1 19 _ _ rfl; first | omega | decide | exact fun h9 => absurd (by decide) h9) (by have := R329.1 15 _ _ rfl; have := R329.1 16 _ _ rfl; have := R329.1 19 _ _ rfl; first | omega | decide | exact fun h9 => absurd (by decide) h9) (by have := R329.1 15 _ _ rfl; have := R329.1 16 _ _ rfl; have := R329.1 19 _ _ rfl; first | omega | decide | exact fun h9 => absurd (by decide) h9) (by have := R329.1 15 _ _ rfl; have := R329.1 16 _ _ rfl; have := R329.1 19 _ _ rfl; first | omega | decide | exact fun h9 => absurd (by decide) h9) (by have := R329.1 15 _ _ rfl; have := R329.1 16 _ _ rfl; have := R329.1 19 _ _ rfl; first | omega | decide | exact fun h9 => absurd (by decide) h9) R329 K338 K339 K340 K341 K342 K343 (by show (2147483647 - (0 : Int) : Int) < _; decide))
abbrev kY_TrustDeskModel_act : mj_Y := (⟨"TrustDeskModel", "act", "(I)I"⟩, prog_14_method_44_code, 3, (Option.some Jvm.ClassFile.FieldType.int))
theorem d_TrustDeskModel_act_0 : decode kY_TrustDeskModel_act.2.1 0 = .ok (.aload_n 0, 1) := by decide +kernel
theorem d_TrustDeskModel_act_1 : decode kY_TrustDeskModel_act.2.1 1 = .ok (.iconst 0, 1) := by decide +kernel
theorem d_TrustDeskModel_act_2 : decode kY_TrustDeskModel_act.2.1 2 = .ok (.putfield 1, 3) := by decide +kernel
theorem p_TrustDeskModel_1_13 : mj_fp "TrustDeskModel" 1 13 0 (kt_TrustDeskModel 0) false := ⟨kR_TrustDeskModel, kF_TrustDeskModel, 72, "TrustDeskModel", kt_TrustDeskModel, rfl, kg_13, by decide, (mj_in1 (List.mem_of_getElem? (i := 1386) (by decide +kernel)) rfl), Or.inl rfl, kto_TrustDeskModel, kn_TrustDeskModel, rfl, rfl, fun h => by cases h⟩
theorem d_TrustDeskModel_act_5 : decode kY_TrustDeskModel_act.2.1 5 = .ok (.iload_n 1, 1) := by decide +kernel
theorem d_TrustDeskModel_act_6 : decode kY_TrustDeskModel_act.2.1 6 = .ok (.i2l, 1) := by decide +kernel
theorem d_TrustDeskModel_act_7 : decode kY_TrustDeskModel_act.2.1 7 = .ok (.lconst 0, 1) := by decide +kernel
theorem d_TrustDeskModel_act_8 : decode kY_TrustDeskModel_act.2.1 8 = .ok (.ldc2_w 376, 3) := by decide +kernel
theorem k_TrustDeskModel_376 : Cond.constantLong "TrustDeskModel" 376 36000 ∈ mj_T := (mj_in1 (List.mem_of_getElem? (i := 1643) (by decide +kernel)) rfl)
theorem d_TrustDeskModel_act_11 : decode kY_TrustDeskModel_act.2.1 11 = .ok (.invokestatic 169, 3) := by decide +kernel
theorem d_TrustDeskModel_act_14 : decode kY_TrustDeskModel_act.2.1 14 = .ok (.ifCond .eq 12, 3) := by decide +kernel
theorem d_TrustDeskModel_act_26 : decode kY_TrustDeskModel_act.2.1 26 = .ok (.iconst (-1), 1) := by decide +kernel
theorem d_TrustDeskModel_act_27 : decode kY_TrustDeskModel_act.2.1 27 = .ok (.ireturn, 1) := by decide +kernel
theorem d_TrustDeskModel_act_17 : decode kY_TrustDeskModel_act.2.1 17 = .ok (.aload_n 0, 1) := by decide +kernel
theorem d_TrustDeskModel_act_18 : decode kY_TrustDeskModel_act.2.1 18 = .ok (.getfield 378, 3) := by decide +kernel
theorem f_TrustDeskModel_378_13 : mj_fl "TrustDeskModel" 378 13 27 := ⟨kR_TrustDeskModel, kF_TrustDeskModel, 72, "TrustDeskModel", rfl, kg_13, by decide, (mj_in1 (List.mem_of_getElem? (i := 1413) (by decide +kernel)) rfl), Or.inl rfl⟩
theorem d_TrustDeskModel_act_21 : decode kY_TrustDeskModel_act.2.1 21 = .ok (.bipush 20, 2) := by decide +kernel
theorem d_TrustDeskModel_act_23 : decode kY_TrustDeskModel_act.2.1 23 = .ok (.if_icmp .ne 5, 3) := by decide +kernel
theorem d_TrustDeskModel_act_28 : decode kY_TrustDeskModel_act.2.1 28 = .ok (.aload_n 0, 1) := by decide +kernel
theorem d_TrustDeskModel_act_29 : decode kY_TrustDeskModel_act.2.1 29 = .ok (.iconst 1, 1) := by decide +kernel
theorem d_TrustDeskModel_act_30 : decode kY_TrustDeskModel_act.2.1 30 = .ok (.invokevirtual 381, 3) := by decide +kernel
theorem lV_TrustDeskModel_381 : mj_lV "TrustDeskModel" 381 kY_TrustDeskModel_starts 1 := ⟨⟨(mj_in1 (List.mem_of_getElem? (i := 1644) (by decide +kernel)) rfl), (mj_in1 (List.mem_of_getElem? (i := 10) (by decide +kernel)) rfl), (mj_in1 (List.mem_of_getElem? (i := 1647) (by decide +kernel)) rfl), by decide, rfl, by decide⟩, (mj_in1 (List.mem_of_getElem? (i := 1646) (by decide +kernel)) rfl), (mj_in (List.mem_append_left _ (List.mem_of_getElem? (i := 80) (by decide +kernel))) rfl)⟩
theorem d_TrustDeskModel_act_33 : decode kY_TrustDeskModel_act.2.1 33 = .ok (.aload_n 0, 1) := by decide +kernel
theorem d_TrustDeskModel_act_34 : decode kY_TrustDeskModel_act.2.1 34 = .ok (.invokevirtual 230, 3) := by decide +kernel
theorem d_TrustDeskModel_act_37 : decode kY_TrustDeskModel_act.2.1 37 = .ok (.ifCond .eq 17, 3) := by decide +kernel
theorem d_TrustDeskModel_act_54 : decode kY_TrustDeskModel_act.2.1 54 = .ok (.aload_n 0, 1) := by decide +kernel
theorem d_TrustDeskModel_act_55 : decode kY_TrustDeskModel_act.2.1 55 = .ok (.aload_n 0, 1) := by decide +kernel
theorem d_TrustDeskModel_act_56 : decode kY_TrustDeskModel_act.2.1 56 = .ok (.getfield 378, 3) := by decide +kernel
theorem d_TrustDeskModel_act_59 : decode kY_TrustDeskModel_act.2.1 59 = .ok (.invokevirtual 388, 3) := by decide +kernel
theorem lV_TrustDeskModel_388 : mj_lV "TrustDeskModel" 388 kY_TrustDeskModel_stops 1 := ⟨⟨(mj_in1 (List.mem_of_getElem? (i := 1772) (by decide +kernel)) rfl), (mj_in1 (List.mem_of_getElem? (i := 10) (by decide +kernel)) rfl), (mj_in1 (List.mem_of_getElem? (i := 1775) (by decide +kernel)) rfl), by decide, rfl, by decide⟩, (mj_in1 (List.mem_of_getElem? (i := 1774) (by decide +kernel)) rfl), (mj_in (List.mem_append_left _ (List.mem_of_getElem? (i := 103) (by decide +kernel))) rfl)⟩
theorem d_TrustDeskModel_act_62 : decode kY_TrustDeskModel_act.2.1 62 = .ok (.istore_n 2, 1) := by decide +kernel
theorem d_TrustDeskModel_act_63 : decode kY_TrustDeskModel_act.2.1 63 = .ok (.iload_n 2, 1) := by decide +kernel
theorem d_TrustDeskModel_act_64 : decode kY_TrustDeskModel_act.2.1 64 = .ok (.ifCond .ge 5, 3) := by decide +kernel
theorem d_TrustDeskModel_act_69 : decode kY_TrustDeskModel_act.2.1 69 = .ok (.aload_n 0, 1) := by decide +kernel
theorem d_TrustDeskModel_act_70 : decode kY_TrustDeskModel_act.2.1 70 = .ok (.getfield 57, 3) := by decide +kernel
theorem f_TrustDeskModel_57_13 : mj_fl "TrustDeskModel" 57 13 28 := ⟨kR_TrustDeskModel, kF_TrustDeskModel, 72, "TrustDeskModel", rfl, kg_13, by decide, (mj_in1 (List.mem_of_getElem? (i := 1414) (by decide +kernel)) rfl), Or.inl rfl⟩
theorem d_TrustDeskModel_act_73 : decode kY_TrustDeskModel_act.2.1 73 = .ok (.aload_n 0, 1) := by decide +kernel
theorem d_TrustDeskModel_act_74 : decode kY_TrustDeskModel_act.2.1 74 = .ok (.getfield 378, 3) := by decide +kernel
theorem d_TrustDeskModel_act_77 : decode kY_TrustDeskModel_act.2.1 77 = .ok (.iload_n 1, 1) := by decide +kernel
theorem d_TrustDeskModel_act_78 : decode kY_TrustDeskModel_act.2.1 78 = .ok (.iastore, 1) := by decide +kernel
theorem d_TrustDeskModel_act_79 : decode kY_TrustDeskModel_act.2.1 79 = .ok (.aload_n 0, 1) := by decide +kernel
theorem d_TrustDeskModel_act_80 : decode kY_TrustDeskModel_act.2.1 80 = .ok (.dup, 1) := by decide +kernel
theorem d_TrustDeskModel_act_81 : decode kY_TrustDeskModel_act.2.1 81 = .ok (.getfield 378, 3) := by decide +kernel
theorem d_TrustDeskModel_act_84 : decode kY_TrustDeskModel_act.2.1 84 = .ok (.iconst 1, 1) := by decide +kernel
theorem d_TrustDeskModel_act_85 : decode kY_TrustDeskModel_act.2.1 85 = .ok (.iadd, 1) := by decide +kernel
theorem d_TrustDeskModel_act_86 : decode kY_TrustDeskModel_act.2.1 86 = .ok (.putfield 378, 3) := by decide +kernel
theorem p_TrustDeskModel_378_13 : mj_fp "TrustDeskModel" 378 13 27 (kt_TrustDeskModel 27) false := ⟨kR_TrustDeskModel, kF_TrustDeskModel, 72, "TrustDeskModel", kt_TrustDeskModel, rfl, kg_13, by decide, (mj_in1 (List.mem_of_getElem? (i := 1413) (by decide +kernel)) rfl), Or.inl rfl, kto_TrustDeskModel, kn_TrustDeskModel, rfl, rfl, fun h => by cases h⟩
theorem d_TrustDeskModel_act_89 : decode kY_TrustDeskModel_act.2.1 89 = .ok (.aload_n 0, 1) := by decide +kernel
theorem d_TrustDeskModel_act_90 : decode kY_TrustDeskModel_act.2.1 90 = .ok (.getfield 23, 3) := by decide +kernel
theorem d_TrustDeskModel_act_93 : decode kY_TrustDeskModel_act.2.1 93 = .ok (.aload_n 0, 1) := by decide +kernel
theorem d_TrustDeskModel_act_94 : decode kY_TrustDeskModel_act.2.1 94 = .ok (.getfield 378, 3) := by decide +kernel
theorem d_TrustDeskModel_act_97 : decode kY_TrustDeskModel_act.2.1 97 = .ok (.iconst 1, 1) := by decide +kernel
theorem d_TrustDeskModel_act_98 : decode kY_TrustDeskModel_act.2.1 98 = .ok (.isub, 1) := by decide +kernel
theorem d_TrustDeskModel_act_99 : decode kY_TrustDeskModel_act.2.1 99 = .ok (.iaload, 1) := by decide +kernel
theorem d_TrustDeskModel_act_100 : decode kY_TrustDeskModel_act.2.1 100 = .ok (.ireturn, 1) := by decide +kernel
theorem d_TrustDeskModel_act_67 : decode kY_TrustDeskModel_act.2.1 67 = .ok (.iload_n 2, 1) := by decide +kernel
theorem d_TrustDeskModel_act_68 : decode kY_TrustDeskModel_act.2.1 68 = .ok (.ireturn, 1) := by decide +kernel
theorem d_TrustDeskModel_act_40 : decode kY_TrustDeskModel_act.2.1 40 = .ok (.aload_n 0, 1) := by decide +kernel
theorem d_TrustDeskModel_act_41 : decode kY_TrustDeskModel_act.2.1 41 = .ok (.getfield 198, 3) := by decide +kernel
theorem d_TrustDeskModel_act_44 : decode kY_TrustDeskModel_act.2.1 44 = .ok (.ifCond .eq 10, 3) := by decide +kernel
theorem d_TrustDeskModel_act_47 : decode kY_TrustDeskModel_act.2.1 47 = .ok (.aload_n 0, 1) := by decide +kernel
theorem d_TrustDeskModel_act_48 : decode kY_TrustDeskModel_act.2.1 48 = .ok (.invokevirtual 385, 3) := by decide +kernel
theorem lV_TrustDeskModel_385 : mj_lV "TrustDeskModel" 385 kY_TrustDeskModel_readRule 0 := ⟨⟨(mj_in1 (List.mem_of_getElem? (i := 1666) (by decide +kernel)) rfl), (mj_in1 (List.mem_of_getElem? (i := 10) (by decide +kernel)) rfl), (mj_in1 (List.mem_of_getElem? (i := 1669) (by decide +kernel)) rfl), by decide, rfl, by decide⟩, (mj_in1 (List.mem_of_getElem? (i := 1668) (by decide +kernel)) rfl), (mj_in (List.mem_append_left _ (List.mem_of_getElem? (i := 84) (by decide +kernel))) rfl)⟩
theorem d_TrustDeskModel_act_51 : decode kY_TrustDeskModel_act.2.1 51 = .ok (.goto (-18), 3) := by decide +kernel
def w_TrustDeskModel_act_x : List Nat := [1300, 1314, 1315, 1316, 1317, 1318, 1319, 1320, 1321, 1322, 1323, 1324, 1327, 20004, 20005, 20006, 20007, 20008, 20009, 20010, 20011, 20012, 20028]
set_option maxHeartbeats 100000000 in theorem tc_TrustDeskModel_act_x {g : mj_G} {l : Launch} {d : Nat} {T0 : tm_H} {M0 : mj_M} {n0 x9 : Nat} {o0 : Nat} {x1 : Int32} (h_o0 : T0 o0 = some (0, 13, 0)) (yR : rI M0 o0) (yC : rC M0 o0 44) (I0 : tm_I tm_FT (tm_in w_TrustDeskModel_act_x) x9 T0 M0 n0 T0 M0 n0) : mj_Met g l kY_TrustDeskModel_act (d + 26) [.ref o0, .int x1] M0 n0 0 0 (tm_Q tm_FT (tm_in w_TrustDeskModel_act_x) x9 T0 M0 n0 (fun r _ M => ∃ v : Int32, r = some (.int v) ∧ rI M o0 ∧ (rC M o0 44))) := by
  refine mj_enter (by decide) (Nat.le_of_ble_eq_true rfl) ?_
  have K1 : rC M0 o0 44 := yC
  refine mv_aload_n d_TrustDeskModel_act_0 rfl rfl ?_
  refine mv_iconst (v := 0) d_TrustDeskModel_act_1 (by decide) ?_
  refine tr_putR (k := 0) I0 yR h_o0 rfl ⟨_, rfl⟩ (fun _ h => by cases h) rfl (fun lo hi h => by cases h) (Or.inl (by decide)) d_TrustDeskModel_act_2 p_TrustDeskModel_1_13 rfl rfl (fun M2 I3 q4 K5 R6 A7 V8 => ?_)
  have z9 := (V8 15 (by decide))
  have z10 := (V8 16 (by decide))
  have z11 := (V8 17 (by decide))
  have z12 := (V8 19 (by decide))
  have z13 := (V8 22 (by decide))
  have z14 := (V8 24 (by decide))
  have z15 := (V8 27 (by decide))
  have z16 := (V8 32 (by decide))
  have z17 := (V8 49 (by decide))
  have z18 := (A7 5 (by decide) 44)
  have z19 := (A7 6 (by decide) 44)
  have K20 : rC M2 o0 44 := K1.same (sA_f A7 (by decide)) (sF_f V8 (by decide))
  refine mv_iload_n d_TrustDeskModel_act_5 rfl rfl ?_
  refine mv_i2l (v := x1.toInt64) d_TrustDeskModel_act_6 rfl ?_
  refine mv_lconst (v := 0) d_TrustDeskModel_act_7 (by decide) ?_
  refine mv_ldc2 d_TrustDeskModel_act_8 k_TrustDeskModel_376 ?_
  refine mv_callS (kc1 := 0) (ks1 := 0) (kc' := 0) (ks' := 0) (As := [.long x1.toInt64, .long 0, .long 36000]) (st9 := [.long 36000, .long 0, .long x1.toInt64]) d_TrustDeskModel_act_11 lS_TrustDeskModel_169 (mj_enter (by decide) (Nat.le_of_ble_eq_true rfl) ?_) rfl (Nat.le_of_ble_eq_true rfl) (Nat.le_of_ble_eq_true rfl) (Nat.le_of_ble_eq_true rfl) (hst := rfl) (fun _ _ _ h => h)
  refine mv_lload_n d_TrustDeskModel_within_0 rfl rfl ?_
  refine mv_lload_n d_TrustDeskModel_within_1 rfl rfl ?_
  refine mv_lltZ (tgt := 17) (a := x1.toInt) (b := 0) d_TrustDeskModel_within_2 d_TrustDeskModel_within_3 (by decide) (mz_wide _) (by decide) (fun b21 => ?_) (fun b21 => ?_)
  · refine mv_iconst (v := 0) d_TrustDeskModel_within_17 (by decide) ?_
    refine mv_iret d_TrustDeskModel_within_18 rfl (by decide) ?_
    refine mv_if_eq_t (tgt := 26) d_TrustDeskModel_act_14 (by decide) (by decide) ?_
    refine mv_iconst (v := (-1)) d_TrustDeskModel_act_26 (by decide) ?_
    exact mv_iret d_TrustDeskModel_act_27 rfl (by first | rfl | decide) ⟨_, I3, _, rfl, R6, K20⟩
  · refine mv_lload_n d_TrustDeskModel_within_6 rfl rfl ?_
    refine mv_lload d_TrustDeskModel_within_7 rfl ?_
    refine mv_lgtZ (tgt := 17) (a := x1.toInt) (b := 36000) d_TrustDeskModel_within_9 d_TrustDeskModel_within_10 (by decide) (mz_wide _) (by decide) (fun b22 => ?_) (fun b22 => ?_)
    · refine mv_iconst (v := 0) d_TrustDeskModel_within_17 (by decide) ?_
      refine mv_iret d_TrustDeskModel_within_18 rfl (by decide) ?_
      refine mv_if_eq_t (tgt := 26) d_TrustDeskModel_act_14 (by decide) (by decide) ?_
      refine mv_iconst (v := (-1)) d_TrustDeskModel_act_26 (by decide) ?_
      exact mv_iret d_TrustDeskModel_act_27 rfl (by first | rfl | decide) ⟨_, I3, _, rfl, R6, K20⟩
    · refine mv_iconst (v := 1) d_TrustDeskModel_within_13 (by decide) ?_
      refine mv_goto (tgt := 18) d_TrustDeskModel_within_14 (by decide) ?_
      refine mv_iret d_TrustDeskModel_within_18 rfl (by decide) ?_
      refine mv_if_eq_f (tgt := 26) d_TrustDeskModel_act_14 (by decide) (by decide) ?_
      refine mv_aload_n d_TrustDeskModel_act_17 rfl rfl ?_
      obtain ⟨v24, q23⟩ := tm_atI I3 h_o0 (k := 27) rfl
      refine tr_getK q23 d_TrustDeskModel_act_18 f_TrustDeskModel_378_13 ?_
      have := R6.f (k := 27) q23 rfl
      refine mv_bipush (v := 20) d_TrustDeskModel_act_21 (by decide) ?_
      have := mz_hi v24
      refine mv_icmp_neZ (tgt := 28) (a := v24.toInt) (b := 20) d_TrustDeskModel_act_23 (by decide) rfl (by decide) (fun b25 => ?_) (fun b25 => ?_)
      · refine mv_aload_n d_TrustDeskModel_act_28 rfl rfl ?_
        refine mv_iconst (v := 1) d_TrustDeskModel_act_29 (by decide) ?_
        obtain ⟨_, b32, -⟩ := I3.1 _ _ h_o0
        have : (1 : Int32).toInt = 1 := by decide
        refine mv_callV (kc' := 0) (ks' := 0) (As := [.int 1]) (st9 := [.int 1, .ref o0]) d_TrustDeskModel_act_30 lV_TrustDeskModel_381 b32 rfl (tc_TrustDeskModel_starts_x (d := (d + 23)) (x9 := x9) (o0 := o0) (x1 := 1) h_o0 (by decide) R6 I3.start) rfl (Nat.le_of_ble_eq_true rfl) (Nat.le_of_ble_eq_true rfl) (Nat.le_of_ble_eq_true rfl) (hst := rfl) (fun b26r M27 n28 b26 => ?_)
        obtain ⟨T29, J30, rfl, R33, f34, f35, f36, f37, f38, f39⟩ := b26
        have I31 := I3.call J30 (tm_sub (by decide)) (Or.inl rfl)
        have t40 := J30.up h_o0
        have z41 := (rv_c I3 J30 (I3.up h_o0) (k := 27) rfl).trans z15
        have z42 := (rv_c I3 J30 (I3.up h_o0) (k := 32) rfl).trans z16
        have z43 := (rv_c I3 J30 (I3.up h_o0) (k := 49) rfl).trans z17
        have K44 : rC M27 o0 44 := K20.same (sA_c I3 J30 (I3.up h_o0) (by decide)) (sF_c I3 J30 (I3.up h_o0) (by decide))
        have K45 : rW M27 o0 := rW.start f34 R33 f38 f39 f37
        clear z15 z16 z17
        have q46 := J30.keep h_o0 (by decide) q4
        have q47 := J30.keep h_o0 (by decide) q23
        have L33_48 : ∀ (k : Nat) (T_48 : tm_H) (M_48 : mj_M) (n_48 : Nat), tm_I tm_FT (tm_in w_TrustDeskModel_act_x) x9 T0 M0 n0 T_48 M_48 n_48 → T_48 o0 = some (0, 13, 0) → (rv M_48 o0 19 = 0 → rv M_48 o0 22 = 0) → rv M_48 o0 27 = rv M0 o0 27 → rv M_48 o0 32 = rv M0 o0 32 → rv M_48 o0 49 = rv M0 o0 49 → (rI M_48 o0) → (rC M_48 o0 44) → (rW M_48 o0) → 5 * (401 - rv M_48 o0 16) - rv M_48 o0 19 < (k : Int) → mj_V g l kY_TrustDeskModel_act (d + 26) 33 [(0, .ref o0), (1, .int x1)] [] M_48 n_48 0 0 (tm_Q tm_FT (tm_in w_TrustDeskModel_act_x) x9 T0 M0 n0 (fun r _ M => ∃ v : Int32, r = some (.int v) ∧ rI M o0 ∧ (rC M o0 44))) := by
          intro k48
          induction k48 with
          | zero =>
            intro T_48 M_48 n_48 I_48 h_q0_48 iv0_48 iv1_48 iv2_48 iv3_48 kKR_48 kKC_48 kKW_48 hk48
            have := kKR_48.1 15 _ _ rfl
            have := kKR_48.1 16 _ _ rfl
            have := kKR_48.1 19 _ _ rfl
            exfalso; omega
          | succ k48 ih48 =>
            intro T_48 M_48 n_48 I_48 h_q0_48 iv0_48 iv1_48 iv2_48 iv3_48 kKR_48 kKC_48 kKW_48 hk48
            refine mv_aload_n d_TrustDeskModel_act_33 rfl rfl ?_
            obtain ⟨_, b49, -⟩ := I_48.1 _ _ h_q0_48
            refine mv_callV (kc1 := 0) (ks1 := 0) (kc' := 0) (ks' := 0) (As := []) (st9 := [.ref o0]) d_TrustDeskModel_act_34 lV_TrustDeskModel_230 b49 rfl (mj_enter (by decide) (Nat.le_of_ble_eq_true rfl) ?_) rfl (Nat.le_of_ble_eq_true rfl) (Nat.le_of_ble_eq_true rfl) (Nat.le_of_ble_eq_true rfl) (hst := rfl) (fun _ _ _ h => h)
            refine mv_aload_n d_TrustDeskModel_isWell_0 rfl rfl ?_
            obtain ⟨v51, q50⟩ := tm_atI I_48 h_q0_48 (k := 19) rfl
            refine tr_getK q50 d_TrustDeskModel_isWell_1 f_TrustDeskModel_224_13 ?_
            have := kKR_48.f (k := 19) q50 rfl
            have := tm_rv q50
            have := mz_hi v51
            refine mv_if_neZ (tgt := 11) (a := v51.toInt) d_TrustDeskModel_isWell_4 (by decide) rfl (fun b52 => ?_) (fun b52 => ?_)
            · refine mv_iconst (v := 0) d_TrustDeskModel_isWell_11 (by decide) ?_
              refine mv_iret d_TrustDeskModel_isWell_12 rfl (by decide) ?_
              refine mv_if_eq_t (tgt := 54) d_TrustDeskModel_act_37 (by decide) (by decide) ?_
              refine mv_aload_n d_TrustDeskModel_act_54 rfl rfl ?_
              refine mv_aload_n d_TrustDeskModel_act_55 rfl rfl ?_
              obtain ⟨v54, q53⟩ := tm_atI I_48 h_q0_48 (k := 27) rfl
              refine tr_getK q53 d_TrustDeskModel_act_56 f_TrustDeskModel_378_13 ?_
              have := kKR_48.f (k := 27) q53 rfl
              obtain ⟨_, b61, -⟩ := I_48.1 _ _ h_q0_48
              refine mv_callV (kc' := 0) (ks' := 0) (As := [.int v54]) (st9 := [.int v54, .ref o0]) d_TrustDeskModel_act_59 lV_TrustDeskModel_388 b61 rfl (tc_TrustDeskModel_stops_x (d := (d + 24)) (x9 := x9) (o0 := o0) (x1 := v54) h_q0_48 kKR_48 (by have := kKR_48.1 15 _ _ rfl; have := kKR_48.1 16 _ _ rfl; have := kKR_48.1 19 _ _ rfl; omega) I_48.start) rfl (Nat.le_of_ble_eq_true rfl) (Nat.le_of_ble_eq_true rfl) (Nat.le_of_ble_eq_true rfl) (hst := rfl) (fun b55r M56 n57 b55 => ?_)
              obtain ⟨T58, J59, v62, rfl, R63, f64, f65⟩ := b55
              have I60 := I_48.call J59 (tm_sub (by decide)) (Or.inl rfl)
              have t66 := J59.up h_q0_48
              replace f64 := Im.i f64
              replace f65 := Im.i f65
              have z67 := (rv_c I_48 J59 (I_48.up h_o0) (k := 15) rfl)
              have z68 := (rv_c I_48 J59 (I_48.up h_o0) (k := 16) rfl)
              have z69 := (rv_c I_48 J59 (I_48.up h_o0) (k := 17) rfl)
              have z70 := (rv_c I_48 J59 (I_48.up h_o0) (k := 19) rfl)
              have z71 := (rv_c I_48 J59 (I_48.up h_o0) (k := 22) rfl)
              have z72 := (rv_c I_48 J59 (I_48.up h_o0) (k := 24) rfl)
              have z73 := (rv_c I_48 J59 (I_48.up h_o0) (k := 27) rfl)
              have z74 := (rv_c I_48 J59 (I_48.up h_o0) (k := 32) rfl)
              have z75 := (rv_c I_48 J59 (I_48.up h_o0) (k := 49) rfl)
              have K76 : (v62.toInt < 0 → rC M56 o0 44) ∧ (0 ≤ v62.toInt → rC M56 o0 v54.toNatClampNeg) := rC.st kKC_48 kKR_48 kKW_48 (by have := mz_nat9 (i := v54) (by have := kKR_48.1 15 _ _ rfl; have := kKR_48.1 16 _ _ rfl; have := kKR_48.1 19 _ _ rfl; omega); have := kKR_48.1 15 _ _ rfl; have := kKR_48.1 16 _ _ rfl; have := kKR_48.1 19 _ _ rfl; omega) (by unfold rU; have := mz_nat9 (i := v54) (by have := kKR_48.1 15 _ _ rfl; have := kKR_48.1 16 _ _ rfl; have := kKR_48.1 19 _ _ rfl; omega); have := kKR_48.1 15 _ _ rfl; have := kKR_48.1 16 _ _ rfl; have := kKR_48.1 19 _ _ rfl; omega) f64 f65 (sA_c I_48 J59 (I_48.up h_o0) (by decide)) (sF_c I_48 J59 (I_48.up h_o0) (by decide))
              have q77 := J59.keep h_q0_48 (by decide) q50
              have q78 := J59.keep h_q0_48 (by decide) q53
              refine mv_istore_n (lv' := [(2, .int v62), (0, .ref o0), (1, .int x1)]) d_TrustDeskModel_act_62 rfl (by decide) rfl ?_
              refine mv_iload_n d_TrustDeskModel_act_63 rfl rfl ?_
              have := mz_hi v62
              refine mv_if_geZ (tgt := 69) (a := v62.toInt) d_TrustDeskModel_act_64 (by decide) rfl (fun b79 => ?_) (fun b79 => ?_)
              · have K80 : rC M56 o0 v54.toNatClampNeg := K76.2 (by omega)
                refine mv_aload_n d_TrustDeskModel_act_69 rfl rfl ?_
                obtain ⟨a82, q81, t_a82⟩ := tm_atR I60 t66 (k := 28) rfl
                refine tr_getK q81 d_TrustDeskModel_act_70 f_TrustDeskModel_57_13 ?_
                refine mv_aload_n d_TrustDeskModel_act_73 rfl rfl ?_
                refine tr_getK (k := 27) q78 d_TrustDeskModel_act_74 f_TrustDeskModel_378_13 ?_
                refine mv_iload_n d_TrustDeskModel_act_77 rfl rfl ?_
                refine tr_iastR (k := 28) I60 R63 (I60.up h_o0) q81 t_a82 (by decide) (by decide) (fun lo hi h => by cases h) (Or.inl (by decide)) d_TrustDeskModel_act_78 (vp_in_iff.mpr (by have := R63.1 15 _ _ rfl; have := R63.1 16 _ _ rfl; have := R63.1 19 _ _ rfl; omega)) (fun M83 I84 K85 R86 E87 A88 V89 => ?_)
                have z90 := (V89 15).trans z67
                have z91 := (V89 16).trans z68
                have z92 := (V89 17).trans z69
                have z93 := (V89 19).trans z70
                have z94 := (V89 22).trans z71
                have z95 := (V89 24).trans z72
                have z96 := (V89 27).trans z73
                have z97 := (V89 32).trans z74
                have z98 := (V89 49).trans z75
                have z99 := (A88 5 (by decide) rfl 44)
                have z100 := (A88 6 (by decide) rfl 44)
                have K101 : rC M83 o0 v54.toNatClampNeg := K80.same (sA_a A88 (by decide)) (sF_a V89)
                clear z67 z68 z69 z71 z72 z73 z74 z75
                refine mv_aload_n d_TrustDeskModel_act_79 rfl rfl ?_
                refine mv_dup d_TrustDeskModel_act_80 rfl ?_
                refine tr_getK (k := 27) (K85 _ 13 27 _ q78) d_TrustDeskModel_act_81 f_TrustDeskModel_378_13 ?_
                refine mv_iconst (v := 1) d_TrustDeskModel_act_84 (by decide) ?_
                refine mv_iadd d_TrustDeskModel_act_85 ?_
                have b102 : (v54 + 1 : Int32).toInt = (v54.toInt + 1) := mz_add2 rfl (by decide) (by have := R86.1 15 _ _ rfl; have := R86.1 16 _ _ rfl; have := R86.1 19 _ _ rfl; omega) (by have := R86.1 15 _ _ rfl; have := R86.1 16 _ _ rfl; have := R86.1 19 _ _ rfl; omega)
                refine tr_putR (k := 27) I84 R86 t66 rfl ⟨_, rfl⟩ (fun _ h => by cases h) rfl (fun lo hi h => by cases h; have := R86.1 15 _ _ rfl; have := R86.1 16 _ _ rfl; have := R86.1 19 _ _ rfl; exact ⟨by show (0 : Int) ≤ (v54 + 1).toInt; omega, by show (v54 + 1).toInt ≤ (20 : Int); omega⟩) (Or.inl (by decide)) d_TrustDeskModel_act_86 p_TrustDeskModel_378_13 rfl rfl (fun M103 I104 q105 K106 R107 A108 V109 => ?_)
                have z110 := (V109 15 (by decide)).trans z90
                have z111 := (V109 16 (by decide)).trans z91
                have z112 := (V109 17 (by decide)).trans z92
                have z113 := (V109 19 (by decide)).trans z93
                have z114 := (V109 22 (by decide)).trans z94
                have z115 := (V109 24 (by decide)).trans z95
                have z116 := (V109 32 (by decide)).trans z97
                have z117 := (V109 49 (by decide)).trans z98
                have z118 := (A108 5 (by decide) 44).trans z99
                have z119 := (A108 6 (by decide) 44).trans z100
                have z120 : rv M103 o0 27 = (v54 + 1).toInt := tm_rv q105
                have K121 : rC M103 o0 44 := rC.act K101 A108 V109 (by have := mz_nat9 (i := v54) (by have := R86.1 15 _ _ rfl; have := R86.1 16 _ _ rfl; have := R86.1 19 _ _ rfl; omega); have := R86.1 15 _ _ rfl; have := R86.1 16 _ _ rfl; have := R86.1 19 _ _ rfl; omega) (by have := R86.1 15 _ _ rfl; have := R86.1 16 _ _ rfl; have := R86.1 19 _ _ rfl; omega) (by have := R86.1 15 _ _ rfl; have := R86.1 16 _ _ rfl; have := R86.1 19 _ _ rfl; omega)
                clear z90 z91 z92 z94 z95 z97 z98 z99 z100
                refine mv_aload_n d_TrustDeskModel_act_89 rfl rfl ?_
                obtain ⟨a123, q122, t_a123⟩ := tm_atR I104 t66 (k := 6) rfl
                refine tr_getK q122 d_TrustDeskModel_act_90 f_TrustDeskModel_23_13 ?_
                refine mv_aload_n d_TrustDeskModel_act_93 rfl rfl ?_
                refine tr_getK (k := 27) q105 d_TrustDeskModel_act_94 f_TrustDeskModel_378_13 ?_
                refine mv_iconst (v := 1) d_TrustDeskModel_act_97 (by decide) ?_
                refine mv_isubv (v := v54) d_TrustDeskModel_act_98 (Int32.add_sub_cancel _ _) ?_
                refine tr_ialdR (o := o0) (k := 6) I104 q122 t_a123 (by decide) d_TrustDeskModel_act_99 (vp_in_iff.mpr (by have := R107.1 15 _ _ rfl; have := R107.1 16 _ _ rfl; have := R107.1 19 _ _ rfl; omega)) (fun v124 e125 => ?_)
                have := R107.a (k := 6) rfl (v54 : Int32).toNatClampNeg
                exact mv_iret d_TrustDeskModel_act_100 rfl (by first | rfl | decide) ⟨_, I104, _, rfl, R107, K121⟩
              · have K126 : rC M56 o0 44 := K76.1 (by omega)
                refine mv_iload_n d_TrustDeskModel_act_67 rfl rfl ?_
                exact mv_iret d_TrustDeskModel_act_68 rfl (by first | rfl | decide) ⟨_, I60, _, rfl, R63, K126⟩
            · refine mv_iconst (v := 1) d_TrustDeskModel_isWell_7 (by decide) ?_
              refine mv_goto (tgt := 12) d_TrustDeskModel_isWell_8 (by decide) ?_
              refine mv_iret d_TrustDeskModel_isWell_12 rfl (by decide) ?_
              refine mv_if_eq_f (tgt := 54) d_TrustDeskModel_act_37 (by decide) (by decide) ?_
              refine mv_aload_n d_TrustDeskModel_act_40 rfl rfl ?_
              obtain ⟨v128, q127⟩ := tm_atI I_48 h_q0_48 (k := 17) rfl
              refine tr_getK q127 d_TrustDeskModel_act_41 f_TrustDeskModel_198_13 ?_
              have := tm_rv q127
              have := mz_hi v128
              refine mv_if_eqZ (tgt := 54) (a := v128.toInt) d_TrustDeskModel_act_44 (by decide) rfl (fun b129 => ?_) (fun b129 => ?_)
              · refine mv_aload_n d_TrustDeskModel_act_54 rfl rfl ?_
                refine mv_aload_n d_TrustDeskModel_act_55 rfl rfl ?_
                obtain ⟨v131, q130⟩ := tm_atI I_48 h_q0_48 (k := 27) rfl
                refine tr_getK q130 d_TrustDeskModel_act_56 f_TrustDeskModel_378_13 ?_
                have := kKR_48.f (k := 27) q130 rfl
                obtain ⟨_, b138, -⟩ := I_48.1 _ _ h_q0_48
                refine mv_callV (kc' := 0) (ks' := 0) (As := [.int v131]) (st9 := [.int v131, .ref o0]) d_TrustDeskModel_act_59 lV_TrustDeskModel_388 b138 rfl (tc_TrustDeskModel_stops_x (d := (d + 24)) (x9 := x9) (o0 := o0) (x1 := v131) h_q0_48 kKR_48 (by have := kKR_48.1 15 _ _ rfl; have := kKR_48.1 16 _ _ rfl; have := kKR_48.1 19 _ _ rfl; omega) I_48.start) rfl (Nat.le_of_ble_eq_true rfl) (Nat.le_of_ble_eq_true rfl) (Nat.le_of_ble_eq_true rfl) (hst := rfl) (fun b132r M133 n134 b132 => ?_)
                obtain ⟨T135, J136, v139, rfl, R140, f141, f142⟩ := b132
                have I137 := I_48.call J136 (tm_sub (by decide)) (Or.inl rfl)
                have t143 := J136.up h_q0_48
                replace f141 := Im.i f141
                replace f142 := Im.i f142
                have z144 := (rv_c I_48 J136 (I_48.up h_o0) (k := 15) rfl)
                have z145 := (rv_c I_48 J136 (I_48.up h_o0) (k := 16) rfl)
                have z146 := (rv_c I_48 J136 (I_48.up h_o0) (k := 17) rfl)
                have z147 := (rv_c I_48 J136 (I_48.up h_o0) (k := 19) rfl)
                have z148 := (rv_c I_48 J136 (I_48.up h_o0) (k := 22) rfl)
                have z149 := (rv_c I_48 J136 (I_48.up h_o0) (k := 24) rfl)
                have z150 := (rv_c I_48 J136 (I_48.up h_o0) (k := 27) rfl)
                have z151 := (rv_c I_48 J136 (I_48.up h_o0) (k := 32) rfl)
                have z152 := (rv_c I_48 J136 (I_48.up h_o0) (k := 49) rfl)
                have K153 : (v139.toInt < 0 → rC M133 o0 44) ∧ (0 ≤ v139.toInt → rC M133 o0 v131.toNatClampNeg) := rC.st kKC_48 kKR_48 kKW_48 (by have := mz_nat9 (i := v131) (by have := kKR_48.1 15 _ _ rfl; have := kKR_48.1 16 _ _ rfl; have := kKR_48.1 19 _ _ rfl; omega); have := kKR_48.1 15 _ _ rfl; have := kKR_48.1 16 _ _ rfl; have := kKR_48.1 19 _ _ rfl; omega) (by unfold rU; have := mz_nat9 (i := v131) (by have := kKR_48.1 15 _ _ rfl; have := kKR_48.1 16 _ _ rfl; have := kKR_48.1 19 _ _ rfl; omega); have := kKR_48.1 15 _ _ rfl; have := kKR_48.1 16 _ _ rfl; have := kKR_48.1 19 _ _ rfl; omega) f141 f142 (sA_c I_48 J136 (I_48.up h_o0) (by decide)) (sF_c I_48 J136 (I_48.up h_o0) (by decide))
                have q154 := J136.keep h_q0_48 (by decide) q50
                have q155 := J136.keep h_q0_48 (by decide) q127
                have q156 := J136.keep h_q0_48 (by decide) q130
                refine mv_istore_n (lv' := [(2, .int v139), (0, .ref o0), (1, .int x1)]) d_TrustDeskModel_act_62 rfl (by decide) rfl ?_
                refine mv_iload_n d_TrustDeskModel_act_63 rfl rfl ?_
                have := mz_hi v139
                refine mv_if_geZ (tgt := 69) (a := v139.toInt) d_TrustDeskModel_act_64 (by decide) rfl (fun b157 => ?_) (fun b157 => ?_)
                · have K158 : rC M133 o0 v131.toNatClampNeg := K153.2 (by omega)
                  refine mv_aload_n d_TrustDeskModel_act_69 rfl rfl ?_
                  obtain ⟨a160, q159, t_a160⟩ := tm_atR I137 t143 (k := 28) rfl
                  refine tr_getK q159 d_TrustDeskModel_act_70 f_TrustDeskModel_57_13 ?_
                  refine mv_aload_n d_TrustDeskModel_act_73 rfl rfl ?_
                  refine tr_getK (k := 27) q156 d_TrustDeskModel_act_74 f_TrustDeskModel_378_13 ?_
                  refine mv_iload_n d_TrustDeskModel_act_77 rfl rfl ?_
                  refine tr_iastR (k := 28) I137 R140 (I137.up h_o0) q159 t_a160 (by decide) (by decide) (fun lo hi h => by cases h) (Or.inl (by decide)) d_TrustDeskModel_act_78 (vp_in_iff.mpr (by have := R140.1 15 _ _ rfl; have := R140.1 16 _ _ rfl; have := R140.1 19 _ _ rfl; omega)) (fun M161 I162 K163 R164 E165 A166 V167 => ?_)
                  have z168 := (V167 15).trans z144
                  have z169 := (V167 16).trans z145
                  have z170 := (V167 17).trans z146
                  have z171 := (V167 19).trans z147
                  have z172 := (V167 22).trans z148
                  have z173 := (V167 24).trans z149
                  have z174 := (V167 27).trans z150
                  have z175 := (V167 32).trans z151
                  have z176 := (V167 49).trans z152
                  have z177 := (A166 5 (by decide) rfl 44)
                  have z178 := (A166 6 (by decide) rfl 44)
                  have K179 : rC M161 o0 v131.toNatClampNeg := K158.same (sA_a A166 (by decide)) (sF_a V167)
                  clear z144 z145 z146 z148 z149 z150 z151 z152
                  refine mv_aload_n d_TrustDeskModel_act_79 rfl rfl ?_
                  refine mv_dup d_TrustDeskModel_act_80 rfl ?_
                  refine tr_getK (k := 27) (K163 _ 13 27 _ q156) d_TrustDeskModel_act_81 f_TrustDeskModel_378_13 ?_
                  refine mv_iconst (v := 1) d_TrustDeskModel_act_84 (by decide) ?_
                  refine mv_iadd d_TrustDeskModel_act_85 ?_
                  have b180 : (v131 + 1 : Int32).toInt = (v131.toInt + 1) := mz_add2 rfl (by decide) (by have := R164.1 15 _ _ rfl; have := R164.1 16 _ _ rfl; have := R164.1 19 _ _ rfl; omega) (by have := R164.1 15 _ _ rfl; have := R164.1 16 _ _ rfl; have := R164.1 19 _ _ rfl; omega)
                  refine tr_putR (k := 27) I162 R164 t143 rfl ⟨_, rfl⟩ (fun _ h => by cases h) rfl (fun lo hi h => by cases h; have := R164.1 15 _ _ rfl; have := R164.1 16 _ _ rfl; have := R164.1 19 _ _ rfl; exact ⟨by show (0 : Int) ≤ (v131 + 1).toInt; omega, by show (v131 + 1).toInt ≤ (20 : Int); omega⟩) (Or.inl (by decide)) d_TrustDeskModel_act_86 p_TrustDeskModel_378_13 rfl rfl (fun M181 I182 q183 K184 R185 A186 V187 => ?_)
                  have z188 := (V187 15 (by decide)).trans z168
                  have z189 := (V187 16 (by decide)).trans z169
                  have z190 := (V187 17 (by decide)).trans z170
                  have z191 := (V187 19 (by decide)).trans z171
                  have z192 := (V187 22 (by decide)).trans z172
                  have z193 := (V187 24 (by decide)).trans z173
                  have z194 := (V187 32 (by decide)).trans z175
                  have z195 := (V187 49 (by decide)).trans z176
                  have z196 := (A186 5 (by decide) 44).trans z177
                  have z197 := (A186 6 (by decide) 44).trans z178
                  have z198 : rv M181 o0 27 = (v131 + 1).toInt := tm_rv q183
                  have K199 : rC M181 o0 44 := rC.act K179 A186 V187 (by have := mz_nat9 (i := v131) (by have := R164.1 15 _ _ rfl; have := R164.1 16 _ _ rfl; have := R164.1 19 _ _ rfl; omega); have := R164.1 15 _ _ rfl; have := R164.1 16 _ _ rfl; have := R164.1 19 _ _ rfl; omega) (by have := R164.1 15 _ _ rfl; have := R164.1 16 _ _ rfl; have := R164.1 19 _ _ rfl; omega) (by have := R164.1 15 _ _ rfl; have := R164.1 16 _ _ rfl; have := R164.1 19 _ _ rfl; omega)
                  clear z168 z169 z170 z172 z173 z175 z176 z177 z178
                  refine mv_aload_n d_TrustDeskModel_act_89 rfl rfl ?_
                  obtain ⟨a201, q200, t_a201⟩ := tm_atR I182 t143 (k := 6) rfl
                  refine tr_getK q200 d_TrustDeskModel_act_90 f_TrustDeskModel_23_13 ?_
                  refine mv_aload_n d_TrustDeskModel_act_93 rfl rfl ?_
                  refine tr_getK (k := 27) q183 d_TrustDeskModel_act_94 f_TrustDeskModel_378_13 ?_
                  refine mv_iconst (v := 1) d_TrustDeskModel_act_97 (by decide) ?_
                  refine mv_isubv (v := v131) d_TrustDeskModel_act_98 (Int32.add_sub_cancel _ _) ?_
                  refine tr_ialdR (o := o0) (k := 6) I182 q200 t_a201 (by decide) d_TrustDeskModel_act_99 (vp_in_iff.mpr (by have := R185.1 15 _ _ rfl; have := R185.1 16 _ _ rfl; have := R185.1 19 _ _ rfl; omega)) (fun v202 e203 => ?_)
                  have := R185.a (k := 6) rfl (v131 : Int32).toNatClampNeg
                  exact mv_iret d_TrustDeskModel_act_100 rfl (by first | rfl | decide) ⟨_, I182, _, rfl, R185, K199⟩
                · have K204 : rC M133 o0 44 := K153.1 (by omega)
                  refine mv_iload_n d_TrustDeskModel_act_67 rfl rfl ?_
                  exact mv_iret d_TrustDeskModel_act_68 rfl (by first | rfl | decide) ⟨_, I137, _, rfl, R140, K204⟩
              · refine mv_aload_n d_TrustDeskModel_act_47 rfl rfl ?_
                obtain ⟨_, b211, -⟩ := I_48.1 _ _ h_q0_48
                refine mv_callV (kc' := 0) (ks' := 0) (As := []) (st9 := [.ref o0]) d_TrustDeskModel_act_48 lV_TrustDeskModel_385 b211 rfl (tc_TrustDeskModel_readRule_x (d := d) (x9 := x9) (o0 := o0) h_q0_48 kKR_48 kKW_48 (by have := kKR_48.1 15 _ _ rfl; have := kKR_48.1 16 _ _ rfl; have := kKR_48.1 19 _ _ rfl; omega) (by have := kKR_48.1 15 _ _ rfl; have := kKR_48.1 16 _ _ rfl; have := kKR_48.1 19 _ _ rfl; omega) (by have := kKR_48.1 15 _ _ rfl; have := kKR_48.1 16 _ _ rfl; have := kKR_48.1 19 _ _ rfl; omega) I_48.start) rfl (Nat.le_of_ble_eq_true rfl) (Nat.le_of_ble_eq_true rfl) (Nat.le_of_ble_eq_true rfl) (hst := rfl) (fun b205r M206 n207 b205 => ?_)
                obtain ⟨T208, J209, rfl, R212, f213, f214, f215, f216⟩ := b205
                have I210 := I_48.call J209 (tm_sub (by decide)) (Or.inl rfl)
                have t217 := J209.up h_q0_48
                replace f216 := Im.i f216
                have z218 := (rv_c I_48 J209 (I_48.up h_o0) (k := 24) rfl)
                have z219 := (rv_c I_48 J209 (I_48.up h_o0) (k := 27) rfl)
                have z220 := (rv_c I_48 J209 (I_48.up h_o0) (k := 32) rfl)
                have z221 := (rv_c I_48 J209 (I_48.up h_o0) (k := 49) rfl)
                have K222 : rC M206 o0 44 := kKC_48.rO kKR_48 f214 (sA_c I_48 J209 (I_48.up h_o0) (by decide)) (sF_c I_48 J209 (I_48.up h_o0) (by decide))
                have K223 : rW M206 o0 := f213
                refine mv_goto (tgt := 33) d_TrustDeskModel_act_51 (by decide) ?_
                exact (ih48 T208 M206 n207 I210 t217 (fun w9 => by have u91 : rv M206 o0 19 = 0 := (by omega); have := f216.o u91; omega) (by have := R212.1 15 _ _ rfl; have := R212.1 16 _ _ rfl; have := R212.1 19 _ _ rfl; first | omega | decide | exact fun h9 => absurd (by decide) h9) (by have := R212.1 15 _ _ rfl; have := R212.1 16 _ _ rfl; have := R212.1 19 _ _ rfl; first | omega | decide | exact fun h9 => absurd (by decide) h9) (by have := R212.1 15 _ _ rfl; have := R212.1 16 _ _ rfl; have := R212.1 19 _ _ rfl; first | omega | decide | exact fun h9 => absurd (by decide) h9) R212 K222 K223 (by have := R212.1 15 _ _ rfl; have := R212.1 16 _ _ rfl; have := R212.1 19 _ _ rfl; exact Classical.byCases (fun w9 : rv M206 o0 19 = 0 => by have u91 : rv M206 o0 19 = 0 := (by omega); have := f216.o u91; omega) (fun w9 : ¬ rv M206 o0 19 = 0 => by omega)))
        exact mv_less (Nat.zero_le _) (Nat.zero_le _) (L33_48 4294967296 T29 M27 n28 I31 t40 (fun w9 => by skip; omega) (by have := R33.1 15 _ _ rfl; have := R33.1 16 _ _ rfl; have := R33.1 19 _ _ rfl; first | omega | decide | exact fun h9 => absurd (by decide) h9) (by have := R33.1 15 _ _ rfl; have := R33.1 16 _ _ rfl; have := R33.1 19 _ _ rfl; first | omega | decide | exact fun h9 => absurd (by decide) h9) (by have := R33.1 15 _ _ rfl; have := R33.1 16 _ _ rfl; have := R33.1 19 _ _ rfl; first | omega | decide | exact fun h9 => absurd (by decide) h9) R33 K44 K45 (by have := R33.1 15 _ _ rfl; have := R33.1 16 _ _ rfl; have := R33.1 19 _ _ rfl; omega))
      · refine mv_iconst (v := (-1)) d_TrustDeskModel_act_26 (by decide) ?_
        exact mv_iret d_TrustDeskModel_act_27 rfl (by first | rfl | decide) ⟨_, I3, _, rfl, R6, K20⟩
abbrev kY_TrustDeskModel_near : mj_Y := (⟨"TrustDeskModel", "near", "(I)I"⟩, prog_14_method_56_code, 3, (Option.some Jvm.ClassFile.FieldType.int))
theorem d_TrustDeskModel_near_0 : decode kY_TrustDeskModel_near.2.1 0 = .ok (.aload_n 0, 1) := by decide +kernel
theorem d_TrustDeskModel_near_1 : decode kY_TrustDeskModel_near.2.1 1 = .ok (.iconst 0, 1) := by decide +kernel
theorem d_TrustDeskModel_near_2 : decode kY_TrustDeskModel_near.2.1 2 = .ok (.putfield 1, 3) := by decide +kernel
theorem d_TrustDeskModel_near_5 : decode kY_TrustDeskModel_near.2.1 5 = .ok (.iload_n 1, 1) := by decide +kernel
theorem d_TrustDeskModel_near_6 : decode kY_TrustDeskModel_near.2.1 6 = .ok (.i2l, 1) := by decide +kernel
theorem d_TrustDeskModel_near_7 : decode kY_TrustDeskModel_near.2.1 7 = .ok (.lconst 0, 1) := by decide +kernel
theorem d_TrustDeskModel_near_8 : decode kY_TrustDeskModel_near.2.1 8 = .ok (.ldc2_w 433, 3) := by decide +kernel
theorem k_TrustDeskModel_433 : Cond.constantLong "TrustDeskModel" 433 255 ∈ mj_T := (mj_in1 (List.mem_of_getElem? (i := 1825) (by decide +kernel)) rfl)
theorem d_TrustDeskModel_near_11 : decode kY_TrustDeskModel_near.2.1 11 = .ok (.invokestatic 169, 3) := by decide +kernel
theorem d_TrustDeskModel_near_14 : decode kY_TrustDeskModel_near.2.1 14 = .ok (.ifCond .eq 12, 3) := by decide +kernel
theorem d_TrustDeskModel_near_26 : decode kY_TrustDeskModel_near.2.1 26 = .ok (.iconst (-1), 1) := by decide +kernel
theorem d_TrustDeskModel_near_27 : decode kY_TrustDeskModel_near.2.1 27 = .ok (.ireturn, 1) := by decide +kernel
theorem d_TrustDeskModel_near_17 : decode kY_TrustDeskModel_near.2.1 17 = .ok (.aload_n 0, 1) := by decide +kernel
theorem d_TrustDeskModel_near_18 : decode kY_TrustDeskModel_near.2.1 18 = .ok (.getfield 435, 3) := by decide +kernel
theorem f_TrustDeskModel_435_13 : mj_fl "TrustDeskModel" 435 13 49 := ⟨kR_TrustDeskModel, kF_TrustDeskModel, 72, "TrustDeskModel", rfl, kg_13, by decide, (mj_in1 (List.mem_of_getElem? (i := 1435) (by decide +kernel)) rfl), Or.inl rfl⟩
theorem d_TrustDeskModel_near_21 : decode kY_TrustDeskModel_near.2.1 21 = .ok (.bipush 12, 2) := by decide +kernel
theorem d_TrustDeskModel_near_23 : decode kY_TrustDeskModel_near.2.1 23 = .ok (.if_icmp .ne 5, 3) := by decide +kernel
theorem d_TrustDeskModel_near_28 : decode kY_TrustDeskModel_near.2.1 28 = .ok (.aload_n 0, 1) := by decide +kernel
theorem d_TrustDeskModel_near_29 : decode kY_TrustDeskModel_near.2.1 29 = .ok (.iconst 0, 1) := by decide +kernel
theorem d_TrustDeskModel_near_30 : decode kY_TrustDeskModel_near.2.1 30 = .ok (.invokevirtual 381, 3) := by decide +kernel
theorem d_TrustDeskModel_near_33 : decode kY_TrustDeskModel_near.2.1 33 = .ok (.aload_n 0, 1) := by decide +kernel
theorem d_TrustDeskModel_near_34 : decode kY_TrustDeskModel_near.2.1 34 = .ok (.ldc_w 336, 3) := by decide +kernel
theorem d_TrustDeskModel_near_37 : decode kY_TrustDeskModel_near.2.1 37 = .ok (.invokevirtual 244, 3) := by decide +kernel
theorem d_TrustDeskModel_near_40 : decode kY_TrustDeskModel_near.2.1 40 = .ok (.ifCond .eq 10, 3) := by decide +kernel
theorem d_TrustDeskModel_near_50 : decode kY_TrustDeskModel_near.2.1 50 = .ok (.aload_n 0, 1) := by decide +kernel
theorem d_TrustDeskModel_near_51 : decode kY_TrustDeskModel_near.2.1 51 = .ok (.iconst 1, 1) := by decide +kernel
theorem d_TrustDeskModel_near_52 : decode kY_TrustDeskModel_near.2.1 52 = .ok (.invokevirtual 240, 3) := by decide +kernel
theorem d_TrustDeskModel_near_55 : decode kY_TrustDeskModel_near.2.1 55 = .ok (.aload_n 0, 1) := by decide +kernel
theorem d_TrustDeskModel_near_56 : decode kY_TrustDeskModel_near.2.1 56 = .ok (.invokevirtual 230, 3) := by decide +kernel
theorem d_TrustDeskModel_near_59 : decode kY_TrustDeskModel_near.2.1 59 = .ok (.ifCond .eq 15, 3) := by decide +kernel
theorem d_TrustDeskModel_near_74 : decode kY_TrustDeskModel_near.2.1 74 = .ok (.aload_n 0, 1) := by decide +kernel
theorem d_TrustDeskModel_near_75 : decode kY_TrustDeskModel_near.2.1 75 = .ok (.bipush 32, 2) := by decide +kernel
theorem d_TrustDeskModel_near_77 : decode kY_TrustDeskModel_near.2.1 77 = .ok (.aload_n 0, 1) := by decide +kernel
theorem d_TrustDeskModel_near_78 : decode kY_TrustDeskModel_near.2.1 78 = .ok (.getfield 435, 3) := by decide +kernel
theorem d_TrustDeskModel_near_81 : decode kY_TrustDeskModel_near.2.1 81 = .ok (.iadd, 1) := by decide +kernel
theorem d_TrustDeskModel_near_82 : decode kY_TrustDeskModel_near.2.1 82 = .ok (.invokevirtual 388, 3) := by decide +kernel
theorem d_TrustDeskModel_near_85 : decode kY_TrustDeskModel_near.2.1 85 = .ok (.istore_n 2, 1) := by decide +kernel
theorem d_TrustDeskModel_near_86 : decode kY_TrustDeskModel_near.2.1 86 = .ok (.iload_n 2, 1) := by decide +kernel
theorem d_TrustDeskModel_near_87 : decode kY_TrustDeskModel_near.2.1 87 = .ok (.ifCond .ge 5, 3) := by decide +kernel
theorem d_TrustDeskModel_near_92 : decode kY_TrustDeskModel_near.2.1 92 = .ok (.aload_n 0, 1) := by decide +kernel
theorem d_TrustDeskModel_near_93 : decode kY_TrustDeskModel_near.2.1 93 = .ok (.getfield 116, 3) := by decide +kernel
theorem f_TrustDeskModel_116_13 : mj_fl "TrustDeskModel" 116 13 50 := ⟨kR_TrustDeskModel, kF_TrustDeskModel, 72, "TrustDeskModel", rfl, kg_13, by decide, (mj_in1 (List.mem_of_getElem? (i := 1436) (by decide +kernel)) rfl), Or.inl rfl⟩
theorem d_TrustDeskModel_near_96 : decode kY_TrustDeskModel_near.2.1 96 = .ok (.aload_n 0, 1) := by decide +kernel
theorem d_TrustDeskModel_near_97 : decode kY_TrustDeskModel_near.2.1 97 = .ok (.getfield 435, 3) := by decide +kernel
theorem d_TrustDeskModel_near_100 : decode kY_TrustDeskModel_near.2.1 100 = .ok (.iload_n 1, 1) := by decide +kernel
theorem d_TrustDeskModel_near_101 : decode kY_TrustDeskModel_near.2.1 101 = .ok (.iastore, 1) := by decide +kernel
theorem d_TrustDeskModel_near_102 : decode kY_TrustDeskModel_near.2.1 102 = .ok (.aload_n 0, 1) := by decide +kernel
theorem d_TrustDeskModel_near_103 : decode kY_TrustDeskModel_near.2.1 103 = .ok (.dup, 1) := by decide +kernel
theorem d_TrustDeskModel_near_104 : decode kY_TrustDeskModel_near.2.1 104 = .ok (.getfield 435, 3) := by decide +kernel
theorem d_TrustDeskModel_near_107 : decode kY_TrustDeskModel_near.2.1 107 = .ok (.iconst 1, 1) := by decide +kernel
theorem d_TrustDeskModel_near_108 : decode kY_TrustDeskModel_near.2.1 108 = .ok (.iadd, 1) := by decide +kernel
theorem d_TrustDeskModel_near_109 : decode kY_TrustDeskModel_near.2.1 109 = .ok (.putfield 435, 3) := by decide +kernel
theorem p_TrustDeskModel_435_13 : mj_fp "TrustDeskModel" 435 13 49 (kt_TrustDeskModel 49) false := ⟨kR_TrustDeskModel, kF_TrustDeskModel, 72, "TrustDeskModel", kt_TrustDeskModel, rfl, kg_13, by decide, (mj_in1 (List.mem_of_getElem? (i := 1435) (by decide +kernel)) rfl), Or.inl rfl, kto_TrustDeskModel, kn_TrustDeskModel, rfl, rfl, fun h => by cases h⟩
theorem d_TrustDeskModel_near_112 : decode kY_TrustDeskModel_near.2.1 112 = .ok (.aload_n 0, 1) := by decide +kernel
theorem d_TrustDeskModel_near_113 : decode kY_TrustDeskModel_near.2.1 113 = .ok (.getfield 435, 3) := by decide +kernel
theorem d_TrustDeskModel_near_116 : decode kY_TrustDeskModel_near.2.1 116 = .ok (.iconst 1, 1) := by decide +kernel
theorem d_TrustDeskModel_near_117 : decode kY_TrustDeskModel_near.2.1 117 = .ok (.isub, 1) := by decide +kernel
theorem d_TrustDeskModel_near_118 : decode kY_TrustDeskModel_near.2.1 118 = .ok (.ireturn, 1) := by decide +kernel
theorem d_TrustDeskModel_near_90 : decode kY_TrustDeskModel_near.2.1 90 = .ok (.iload_n 2, 1) := by decide +kernel
theorem d_TrustDeskModel_near_91 : decode kY_TrustDeskModel_near.2.1 91 = .ok (.ireturn, 1) := by decide +kernel
theorem d_TrustDeskModel_near_43 : decode kY_TrustDeskModel_near.2.1 43 = .ok (.aload_n 0, 1) := by decide +kernel
theorem d_TrustDeskModel_near_44 : decode kY_TrustDeskModel_near.2.1 44 = .ok (.invokevirtual 425, 3) := by decide +kernel
theorem lV_TrustDeskModel_425 : mj_lV "TrustDeskModel" 425 kY_TrustDeskModel_readClause 0 := ⟨⟨(mj_in1 (List.mem_of_getElem? (i := 1795) (by decide +kernel)) rfl), (mj_in1 (List.mem_of_getElem? (i := 10) (by decide +kernel)) rfl), (mj_in1 (List.mem_of_getElem? (i := 1798) (by decide +kernel)) rfl), by decide, rfl, by decide⟩, (mj_in1 (List.mem_of_getElem? (i := 1797) (by decide +kernel)) rfl), (mj_in (List.mem_append_left _ (List.mem_of_getElem? (i := 106) (by decide +kernel))) rfl)⟩
theorem d_TrustDeskModel_near_47 : decode kY_TrustDeskModel_near.2.1 47 = .ok (.goto 8, 3) := by decide +kernel
theorem d_TrustDeskModel_near_62 : decode kY_TrustDeskModel_near.2.1 62 = .ok (.aload_n 0, 1) := by decide +kernel
theorem d_TrustDeskModel_near_63 : decode kY_TrustDeskModel_near.2.1 63 = .ok (.getfield 198, 3) := by decide +kernel
theorem d_TrustDeskModel_near_66 : decode kY_TrustDeskModel_near.2.1 66 = .ok (.ifCond .eq 8, 3) := by decide +kernel
theorem d_TrustDeskModel_near_69 : decode kY_TrustDeskModel_near.2.1 69 = .ok (.aload_n 0, 1) := by decide +kernel
theorem d_TrustDeskModel_near_70 : decode kY_TrustDeskModel_near.2.1 70 = .ok (.iconst 1, 1) := by decide +kernel
theorem d_TrustDeskModel_near_71 : decode kY_TrustDeskModel_near.2.1 71 = .ok (.invokevirtual 240, 3) := by decide +kernel
def w_TrustDeskModel_near_x : List Nat := [1300, 1314, 1315, 1316, 1317, 1318, 1319, 1320, 1321, 1322, 1323, 1324, 1349, 20004, 20005, 20006, 20007, 20008, 20009, 20010, 20011, 20012, 20025, 20026, 20050]
set_option maxHeartbeats 100000000 in theorem tc_TrustDeskModel_near_x {g : mj_G} {l : Launch} {d : Nat} {T0 : tm_H} {M0 : mj_M} {n0 x9 : Nat} {o0 : Nat} {x1 : Int32} (h_o0 : T0 o0 = some (0, 13, 0)) (yR : rI M0 o0) (yC : rC M0 o0 44) (I0 : tm_I tm_FT (tm_in w_TrustDeskModel_near_x) x9 T0 M0 n0 T0 M0 n0) : mj_Met g l kY_TrustDeskModel_near (d + 27) [.ref o0, .int x1] M0 n0 0 0 (tm_Q tm_FT (tm_in w_TrustDeskModel_near_x) x9 T0 M0 n0 (fun r _ M => ∃ v : Int32, r = some (.int v) ∧ rI M o0 ∧ (rC M o0 44) ∧ (rv M0 o0 49 ≤ rv M o0 49))) := by
  refine mj_enter (by decide) (Nat.le_of_ble_eq_true rfl) ?_
  have K1 : rC M0 o0 44 := yC
  refine mv_aload_n d_TrustDeskModel_near_0 rfl rfl ?_
  refine mv_iconst (v := 0) d_TrustDeskModel_near_1 (by decide) ?_
  refine tr_putR (k := 0) I0 yR h_o0 rfl ⟨_, rfl⟩ (fun _ h => by cases h) rfl (fun lo hi h => by cases h) (Or.inl (by decide)) d_TrustDeskModel_near_2 p_TrustDeskModel_1_13 rfl rfl (fun M2 I3 q4 K5 R6 A7 V8 => ?_)
  have z9 := (V8 15 (by decide))
  have z10 := (V8 16 (by decide))
  have z11 := (V8 17 (by decide))
  have z12 := (V8 19 (by decide))
  have z13 := (V8 22 (by decide))
  have z14 := (V8 24 (by decide))
  have z15 := (V8 27 (by decide))
  have z16 := (V8 32 (by decide))
  have z17 := (V8 49 (by decide))
  have z18 := (A7 5 (by decide) 44)
  have z19 := (A7 6 (by decide) 44)
  have K20 : rC M2 o0 44 := K1.same (sA_f A7 (by decide)) (sF_f V8 (by decide))
  refine mv_iload_n d_TrustDeskModel_near_5 rfl rfl ?_
  refine mv_i2l (v := x1.toInt64) d_TrustDeskModel_near_6 rfl ?_
  refine mv_lconst (v := 0) d_TrustDeskModel_near_7 (by decide) ?_
  refine mv_ldc2 d_TrustDeskModel_near_8 k_TrustDeskModel_433 ?_
  refine mv_callS (kc1 := 0) (ks1 := 0) (kc' := 0) (ks' := 0) (As := [.long x1.toInt64, .long 0, .long 255]) (st9 := [.long 255, .long 0, .long x1.toInt64]) d_TrustDeskModel_near_11 lS_TrustDeskModel_169 (mj_enter (by decide) (Nat.le_of_ble_eq_true rfl) ?_) rfl (Nat.le_of_ble_eq_true rfl) (Nat.le_of_ble_eq_true rfl) (Nat.le_of_ble_eq_true rfl) (hst := rfl) (fun _ _ _ h => h)
  refine mv_lload_n d_TrustDeskModel_within_0 rfl rfl ?_
  refine mv_lload_n d_TrustDeskModel_within_1 rfl rfl ?_
  refine mv_lltZ (tgt := 17) (a := x1.toInt) (b := 0) d_TrustDeskModel_within_2 d_TrustDeskModel_within_3 (by decide) (mz_wide _) (by decide) (fun b21 => ?_) (fun b21 => ?_)
  · refine mv_iconst (v := 0) d_TrustDeskModel_within_17 (by decide) ?_
    refine mv_iret d_TrustDeskModel_within_18 rfl (by decide) ?_
    refine mv_if_eq_t (tgt := 26) d_TrustDeskModel_near_14 (by decide) (by decide) ?_
    refine mv_iconst (v := (-1)) d_TrustDeskModel_near_26 (by decide) ?_
    exact mv_iret d_TrustDeskModel_near_27 rfl (by first | rfl | decide) ⟨_, I3, _, rfl, R6, K20, (by have := R6.1 15 _ _ rfl; have := R6.1 16 _ _ rfl; have := R6.1 19 _ _ rfl; omega)⟩
  · refine mv_lload_n d_TrustDeskModel_within_6 rfl rfl ?_
    refine mv_lload d_TrustDeskModel_within_7 rfl ?_
    refine mv_lgtZ (tgt := 17) (a := x1.toInt) (b := 255) d_TrustDeskModel_within_9 d_TrustDeskModel_within_10 (by decide) (mz_wide _) (by decide) (fun b22 => ?_) (fun b22 => ?_)
    · refine mv_iconst (v := 0) d_TrustDeskModel_within_17 (by decide) ?_
      refine mv_iret d_TrustDeskModel_within_18 rfl (by decide) ?_
      refine mv_if_eq_t (tgt := 26) d_TrustDeskModel_near_14 (by decide) (by decide) ?_
      refine mv_iconst (v := (-1)) d_TrustDeskModel_near_26 (by decide) ?_
      exact mv_iret d_TrustDeskModel_near_27 rfl (by first | rfl | decide) ⟨_, I3, _, rfl, R6, K20, (by have := R6.1 15 _ _ rfl; have := R6.1 16 _ _ rfl; have := R6.1 19 _ _ rfl; omega)⟩
    · refine mv_iconst (v := 1) d_TrustDeskModel_within_13 (by decide) ?_
      refine mv_goto (tgt := 18) d_TrustDeskModel_within_14 (by decide) ?_
      refine mv_iret d_TrustDeskModel_within_18 rfl (by decide) ?_
      refine mv_if_eq_f (tgt := 26) d_TrustDeskModel_near_14 (by decide) (by decide) ?_
      refine mv_aload_n d_TrustDeskModel_near_17 rfl rfl ?_
      obtain ⟨v24, q23⟩ := tm_atI I3 h_o0 (k := 49) rfl
      refine tr_getK q23 d_TrustDeskModel_near_18 f_TrustDeskModel_435_13 ?_
      have := R6.f (k := 49) q23 rfl
      refine mv_bipush (v := 12) d_TrustDeskModel_near_21 (by decide) ?_
      have := mz_hi v24
      refine mv_icmp_neZ (tgt := 28) (a := v24.toInt) (b := 12) d_TrustDeskModel_near_23 (by decide) rfl (by decide) (fun b25 => ?_) (fun b25 => ?_)
      · refine mv_aload_n d_TrustDeskModel_near_28 rfl rfl ?_
        refine mv_iconst (v := 0) d_TrustDeskModel_near_29 (by decide) ?_
        obtain ⟨_, b32, -⟩ := I3.1 _ _ h_o0
        have : (0 : Int32).toInt = 0 := by decide
        refine mv_callV (kc' := 0) (ks' := 0) (As := [.int 0]) (st9 := [.int 0, .ref o0]) d_TrustDeskModel_near_30 lV_TrustDeskModel_381 b32 rfl (tc_TrustDeskModel_starts_x (d := (d + 24)) (x9 := x9) (o0 := o0) (x1 := 0) h_o0 (by decide) R6 I3.start) rfl (Nat.le_of_ble_eq_true rfl) (Nat.le_of_ble_eq_true rfl) (Nat.le_of_ble_eq_true rfl) (hst := rfl) (fun b26r M27 n28 b26 => ?_)
        obtain ⟨T29, J30, rfl, R33, f34, f35, f36, f37, f38, f39⟩ := b26
        have I31 := I3.call J30 (tm_sub (by decide)) (Or.inl rfl)
        have t40 := J30.up h_o0
        have z41 := (rv_c I3 J30 (I3.up h_o0) (k := 27) rfl).trans z15
        have z42 := (rv_c I3 J30 (I3.up h_o0) (k := 32) rfl).trans z16
        have z43 := (rv_c I3 J30 (I3.up h_o0) (k := 49) rfl).trans z17
        have K44 : rC M27 o0 44 := K20.same (sA_c I3 J30 (I3.up h_o0) (by decide)) (sF_c I3 J30 (I3.up h_o0) (by decide))
        have K45 : rW M27 o0 := rW.start f34 R33 f38 f39 f37
        clear z15 z16 z17
        have q46 := J30.keep h_o0 (by decide) q4
        have q47 := J30.keep h_o0 (by decide) q23
        refine mv_aload_n d_TrustDeskModel_near_33 rfl rfl ?_
        refine mv_ldcSw (id := 42) (tx := "end") d_TrustDeskModel_near_34 (List.mem_of_getElem? (i := 32) rfl) ?_
        obtain ⟨_, b54, -⟩ := I31.1 _ _ t40
        refine mv_callV (kc' := 0) (ks' := 0) (As := [.ref 42]) (st9 := [.ref 42, .ref o0]) d_TrustDeskModel_near_37 lV_TrustDeskModel_244 b54 rfl (tc_TrustDeskModel_isWord_s1_42_x (d := (d + 22)) (x9 := x9) (o0 := o0) t40 R33 I31.start) rfl (Nat.le_of_ble_eq_true rfl) (Nat.le_of_ble_eq_true rfl) (Nat.le_of_ble_eq_true rfl) (hst := rfl) (fun b48r M49 n50 b48 => ?_)
        obtain ⟨T51, J52, v55, rfl, b56, b57, R58, f59, f60, f61⟩ := b48
        have I53 := I31.call J52 (tm_sub (by decide)) (Or.inl rfl)
        have t62 := J52.up t40
        replace f59 := Im.i f59
        replace f60 := Im.i f60
        replace f61 := Im.i f61
        have z63 := (rv_c I31 J52 (I31.up h_o0) (k := 15) rfl)
        have z64 := (rv_c I31 J52 (I31.up h_o0) (k := 16) rfl)
        have z65 := (rv_c I31 J52 (I31.up h_o0) (k := 17) rfl)
        have z66 := (rv_c I31 J52 (I31.up h_o0) (k := 19) rfl)
        have z67 := (rv_c I31 J52 (I31.up h_o0) (k := 22) rfl)
        have z68 := (rv_c I31 J52 (I31.up h_o0) (k := 24) rfl)
        have z69 := (rv_c I31 J52 (I31.up h_o0) (k := 27) rfl).trans z41
        have z70 := (rv_c I31 J52 (I31.up h_o0) (k := 32) rfl).trans z42
        have z71 := (rv_c I31 J52 (I31.up h_o0) (k := 49) rfl).trans z43
        have z72 := (ra_call I31 J52 (I31.up h_o0) (k := 5) rfl rfl rfl 44)
        have z73 := (ra_call I31 J52 (I31.up h_o0) (k := 6) rfl rfl rfl 44)
        have K74 : rC M49 o0 44 := K44.same (sA_c I31 J52 (I31.up h_o0) (by decide)) (sF_c I31 J52 (I31.up h_o0) (by decide))
        have K75 : rW M49 o0 := K45.same (sA_c I31 J52 (I31.up h_o0) (by decide)) (sF_c I31 J52 (I31.up h_o0) (by decide))
        have K76 : v55.toInt = 1 → rwE M49 o0 := f60
        clear z41 z42 z43
        have q77 := J52.keep t40 (by decide) q46
        have q78 := J52.keep t40 (by decide) q47
        have := mz_hi v55
        refine mv_if_eqZ (tgt := 50) (a := v55.toInt) d_TrustDeskModel_near_40 (by decide) rfl (fun b79 => ?_) (fun b79 => ?_)
        · refine mv_aload_n d_TrustDeskModel_near_50 rfl rfl ?_
          refine mv_iconst (v := 1) d_TrustDeskModel_near_51 (by decide) ?_
          obtain ⟨_, b86, -⟩ := I53.1 _ _ t62
          have : (1 : Int32).toInt = 1 := by decide
          refine mv_callV (kc' := 0) (ks' := 0) (As := [.int 1]) (st9 := [.int 1, .ref o0]) d_TrustDeskModel_near_52 lV_TrustDeskModel_240 b86 rfl (tc_TrustDeskModel_fails_x (d := (d + 26)) (x9 := x9) (o0 := o0) (x1 := 1) t62 R58 (by decide) I53.start) rfl (Nat.le_of_ble_eq_true rfl) (Nat.le_of_ble_eq_true rfl) (Nat.le_of_ble_eq_true rfl) (hst := rfl) (fun b80r M81 n82 b80 => ?_)
          obtain ⟨T83, J84, rfl, R87, f88⟩ := b80
          have I85 := I53.call J84 (tm_sub (by decide)) (Or.inl rfl)
          have t89 := J84.up t62
          have z90 := (rv_c I53 J84 (I53.up h_o0) (k := 15) rfl).trans z63
          have z91 := (rv_c I53 J84 (I53.up h_o0) (k := 16) rfl).trans z64
          have z92 := (rv_c I53 J84 (I53.up h_o0) (k := 17) rfl).trans z65
          have z93 := (rv_c I53 J84 (I53.up h_o0) (k := 22) rfl).trans z67
          have z94 := (rv_c I53 J84 (I53.up h_o0) (k := 24) rfl).trans z68
          have z95 := (rv_c I53 J84 (I53.up h_o0) (k := 27) rfl).trans z69
          have z96 := (rv_c I53 J84 (I53.up h_o0) (k := 32) rfl).trans z70
          have z97 := (rv_c I53 J84 (I53.up h_o0) (k := 49) rfl).trans z71
          have z98 := (ra_call I53 J84 (I53.up h_o0) (k := 5) rfl rfl rfl 44).trans z72
          have z99 := (ra_call I53 J84 (I53.up h_o0) (k := 6) rfl rfl rfl 44).trans z73
          have K100 : rC M81 o0 44 := K74.same (sA_c I53 J84 (I53.up h_o0) (by decide)) (sF_c I53 J84 (I53.up h_o0) (by decide))
          have K101 : rW M81 o0 := K75.fail (sF_c I53 J84 (I53.up h_o0) (by decide)) f88
          have K102 : v55.toInt = 1 → rwE M81 o0 := (fun h9 => (K76 h9).same (sA_c I53 J84 (I53.up h_o0) (by decide)) (sF_c I53 J84 (I53.up h_o0) (by decide)))
          have K103 : rv M81 o0 19 = 0 → ra M81 o0 7 880 = 8 ∧ ra M81 o0 6 44 = 1 := (fun h9 => absurd h9 f88)
          clear z63 z64 z65 z67 z68 z69 z70 z71 z72 z73
          have q104 := J84.keep t62 (by decide) q77
          have q105 := J84.keep t62 (by decide) q78
          refine mv_aload_n d_TrustDeskModel_near_55 rfl rfl ?_
          obtain ⟨_, b106, -⟩ := I85.1 _ _ t89
          refine mv_callV (kc1 := 0) (ks1 := 0) (kc' := 0) (ks' := 0) (As := []) (st9 := [.ref o0]) d_TrustDeskModel_near_56 lV_TrustDeskModel_230 b106 rfl (mj_enter (by decide) (Nat.le_of_ble_eq_true rfl) ?_) rfl (Nat.le_of_ble_eq_true rfl) (Nat.le_of_ble_eq_true rfl) (Nat.le_of_ble_eq_true rfl) (hst := rfl) (fun _ _ _ h => h)
          refine mv_aload_n d_TrustDeskModel_isWell_0 rfl rfl ?_
          obtain ⟨v108, q107⟩ := tm_atI I85 t89 (k := 19) rfl
          refine tr_getK q107 d_TrustDeskModel_isWell_1 f_TrustDeskModel_224_13 ?_
          have := R87.f (k := 19) q107 rfl
          have := tm_rv q107
          refine mv_if_neZ (tgt := 11) (a := v108.toInt) d_TrustDeskModel_isWell_4 (by decide) rfl (fun b109 => ?_) (fun b109 => ?_)
          · refine mv_iconst (v := 0) d_TrustDeskModel_isWell_11 (by decide) ?_
            refine mv_iret d_TrustDeskModel_isWell_12 rfl (by decide) ?_
            refine mv_if_eq_t (tgt := 74) d_TrustDeskModel_near_59 (by decide) (by decide) ?_
            refine mv_aload_n d_TrustDeskModel_near_74 rfl rfl ?_
            refine mv_bipush (v := 32) d_TrustDeskModel_near_75 (by decide) ?_
            refine mv_aload_n d_TrustDeskModel_near_77 rfl rfl ?_
            refine tr_getK (k := 49) q105 d_TrustDeskModel_near_78 f_TrustDeskModel_435_13 ?_
            refine mv_iadd d_TrustDeskModel_near_81 ?_
            obtain ⟨_, b116, -⟩ := I85.1 _ _ t89
            have b117 : (32 + v24 : Int32).toInt = (32 + v24.toInt) := mz_add2 (by decide) rfl (by have := R87.1 15 _ _ rfl; have := R87.1 16 _ _ rfl; have := R87.1 19 _ _ rfl; omega) (by have := R87.1 15 _ _ rfl; have := R87.1 16 _ _ rfl; have := R87.1 19 _ _ rfl; omega)
            refine mv_callV (kc' := 0) (ks' := 0) (As := [.int (32 + v24)]) (st9 := [.int (32 + v24), .ref o0]) d_TrustDeskModel_near_82 lV_TrustDeskModel_388 b116 rfl (tc_TrustDeskModel_stops_x (d := (d + 25)) (x9 := x9) (o0 := o0) (x1 := (32 + v24)) t89 R87 (by have := R87.1 15 _ _ rfl; have := R87.1 16 _ _ rfl; have := R87.1 19 _ _ rfl; omega) I85.start) rfl (Nat.le_of_ble_eq_true rfl) (Nat.le_of_ble_eq_true rfl) (Nat.le_of_ble_eq_true rfl) (hst := rfl) (fun b110r M111 n112 b110 => ?_)
            obtain ⟨T113, J114, v118, rfl, R119, f120, f121⟩ := b110
            have I115 := I85.call J114 (tm_sub (by decide)) (Or.inl rfl)
            have t122 := J114.up t89
            replace f120 := Im.i f120
            replace f121 := Im.i f121
            have z123 := (rv_c I85 J114 (I85.up h_o0) (k := 15) rfl).trans z90
            have z124 := (rv_c I85 J114 (I85.up h_o0) (k := 16) rfl).trans z91
            have z125 := (rv_c I85 J114 (I85.up h_o0) (k := 17) rfl).trans z92
            have z126 := (rv_c I85 J114 (I85.up h_o0) (k := 19) rfl)
            have z127 := (rv_c I85 J114 (I85.up h_o0) (k := 22) rfl).trans z93
            have z128 := (rv_c I85 J114 (I85.up h_o0) (k := 24) rfl).trans z94
            have z129 := (rv_c I85 J114 (I85.up h_o0) (k := 27) rfl).trans z95
            have z130 := (rv_c I85 J114 (I85.up h_o0) (k := 32) rfl).trans z96
            have z131 := (rv_c I85 J114 (I85.up h_o0) (k := 49) rfl).trans z97
            have K132 : v55.toInt = 1 → rwE M111 o0 := (fun h9 => (K102 h9).same (sA_c I85 J114 (I85.up h_o0) (by decide)) (sF_c I85 J114 (I85.up h_o0) (by decide)))
            have K133 : (v118.toInt < 0 → rC M111 o0 44) ∧ (0 ≤ v118.toInt → rC M111 o0 ((32 + v24).toNatClampNeg)) := rC.st K100 R87 K101 (by have := mz_nat9 (i := (32 + v24)) (by have := R87.1 15 _ _ rfl; have := R87.1 16 _ _ rfl; have := R87.1 19 _ _ rfl; omega); have := R87.1 15 _ _ rfl; have := R87.1 16 _ _ rfl; have := R87.1 19 _ _ rfl; omega) (by unfold rU; have := mz_nat9 (i := (32 + v24)) (by have := R87.1 15 _ _ rfl; have := R87.1 16 _ _ rfl; have := R87.1 19 _ _ rfl; omega); have := R87.1 15 _ _ rfl; have := R87.1 16 _ _ rfl; have := R87.1 19 _ _ rfl; omega) f120 f121 (sA_c I85 J114 (I85.up h_o0) (by decide)) (sF_c I85 J114 (I85.up h_o0) (by decide))
            have K134 : 0 ≤ v118.toInt → ra M111 o0 7 (20 * (32 + v24).toNatClampNeg) = 8 := k8_of f120 f121 K103
            clear z90 z91 z92 z93 z94 z95 z96 z97
            have q135 := J114.keep t89 (by decide) q104
            have q136 := J114.keep t89 (by decide) q105
            have q137 := J114.keep t89 (by decide) q107
            refine mv_istore_n (lv' := [(2, .int v118), (0, .ref o0), (1, .int x1)]) d_TrustDeskModel_near_85 rfl (by decide) rfl ?_
            refine mv_iload_n d_TrustDeskModel_near_86 rfl rfl ?_
            have := mz_hi v118
            refine mv_if_geZ (tgt := 92) (a := v118.toInt) d_TrustDeskModel_near_87 (by decide) rfl (fun b138 => ?_) (fun b138 => ?_)
            · have K139 : rC M111 o0 ((32 + v24).toNatClampNeg) := K133.2 (by omega)
              refine mv_aload_n d_TrustDeskModel_near_92 rfl rfl ?_
              obtain ⟨a141, q140, t_a141⟩ := tm_atR I115 t122 (k := 50) rfl
              refine tr_getK q140 d_TrustDeskModel_near_93 f_TrustDeskModel_116_13 ?_
              refine mv_aload_n d_TrustDeskModel_near_96 rfl rfl ?_
              refine tr_getK (k := 49) q136 d_TrustDeskModel_near_97 f_TrustDeskModel_435_13 ?_
              refine mv_iload_n d_TrustDeskModel_near_100 rfl rfl ?_
              refine tr_iastR (k := 50) I115 R119 (I115.up h_o0) q140 t_a141 (by decide) (by decide) (fun lo hi h => by cases h) (Or.inl (by decide)) d_TrustDeskModel_near_101 (vp_in_iff.mpr (by have := R119.1 15 _ _ rfl; have := R119.1 16 _ _ rfl; have := R119.1 19 _ _ rfl; omega)) (fun M142 I143 K144 R145 E146 A147 V148 => ?_)
              have z149 := (V148 15).trans z123
              have z150 := (V148 16).trans z124
              have z151 := (V148 17).trans z125
              have z152 := (V148 19).trans z126
              have z153 := (V148 22).trans z127
              have z154 := (V148 24).trans z128
              have z155 := (V148 27).trans z129
              have z156 := (V148 32).trans z130
              have z157 := (V148 49).trans z131
              have z158 := (A147 5 (by decide) rfl 44)
              have z159 := (A147 6 (by decide) rfl 44)
              have K160 : v55.toInt = 1 → rwE M142 o0 := (fun h9 => (K132 h9).same (sA_a A147 (by decide)) (sF_a V148))
              have K161 : 0 ≤ v118.toInt → ra M142 o0 7 (20 * (32 + v24).toNatClampNeg) = 8 := (by have e1 := ((sA_a A147 (by decide)) : sA [7] _ _ _) 7 rfl; rw [e1]; exact K134)
              have K162 : rC M142 o0 ((32 + v24).toNatClampNeg) := K139.same (sA_a A147 (by decide)) (sF_a V148)
              clear z123 z124 z125 z127 z128 z129 z130 z131
              refine mv_aload_n d_TrustDeskModel_near_102 rfl rfl ?_
              refine mv_dup d_TrustDeskModel_near_103 rfl ?_
              refine tr_getK (k := 49) (K144 _ 13 49 _ q136) d_TrustDeskModel_near_104 f_TrustDeskModel_435_13 ?_
              refine mv_iconst (v := 1) d_TrustDeskModel_near_107 (by decide) ?_
              refine mv_iadd d_TrustDeskModel_near_108 ?_
              have b163 : (v24 + 1 : Int32).toInt = (v24.toInt + 1) := mz_add2 rfl (by decide) (by have := R145.1 15 _ _ rfl; have := R145.1 16 _ _ rfl; have := R145.1 19 _ _ rfl; omega) (by have := R145.1 15 _ _ rfl; have := R145.1 16 _ _ rfl; have := R145.1 19 _ _ rfl; omega)
              refine tr_putR (k := 49) I143 R145 t122 rfl ⟨_, rfl⟩ (fun _ h => by cases h) rfl (fun lo hi h => by cases h; have := R145.1 15 _ _ rfl; have := R145.1 16 _ _ rfl; have := R145.1 19 _ _ rfl; exact ⟨by show (0 : Int) ≤ (v24 + 1).toInt; omega, by show (v24 + 1).toInt ≤ (12 : Int); omega⟩) (Or.inl (by decide)) d_TrustDeskModel_near_109 p_TrustDeskModel_435_13 rfl rfl (fun M164 I165 q166 K167 R168 A169 V170 => ?_)
              have z171 := (V170 15 (by decide)).trans z149
              have z172 := (V170 16 (by decide)).trans z150
              have z173 := (V170 17 (by decide)).trans z151
              have z174 := (V170 19 (by decide)).trans z152
              have z175 := (V170 22 (by decide)).trans z153
              have z176 := (V170 24 (by decide)).trans z154
              have z177 := (V170 27 (by decide)).trans z155
              have z178 := (V170 32 (by decide)).trans z156
              have z179 := (A169 5 (by decide) 44).trans z158
              have z180 := (A169 6 (by decide) 44).trans z159
              have z181 : rv M164 o0 49 = (v24 + 1).toInt := tm_rv q166
              have K182 : v55.toInt = 1 → rwE M164 o0 := (fun h9 => (K160 h9).same (sA_f A169 (by decide)) (sF_f V170 (by decide)))
              have K183 : 0 ≤ v118.toInt → ra M164 o0 7 (20 * (32 + v24).toNatClampNeg) = 8 := (by have e1 := ((sA_f A169 (by decide)) : sA [7] _ _ _) 7 rfl; rw [e1]; exact K161)
              have K184 : rC M164 o0 44 := rC.near K162 A169 V170 (by have := mz_nat9 (i := (32 + v24)) (by have := R145.1 15 _ _ rfl; have := R145.1 16 _ _ rfl; have := R145.1 19 _ _ rfl; omega); have := R145.1 15 _ _ rfl; have := R145.1 16 _ _ rfl; have := R145.1 19 _ _ rfl; omega) (by have := R145.1 15 _ _ rfl; have := R145.1 16 _ _ rfl; have := R145.1 19 _ _ rfl; omega) (by have := R145.1 15 _ _ rfl; have := R145.1 16 _ _ rfl; have := R145.1 19 _ _ rfl; omega) (K161 (by omega))
              clear z149 z150 z151 z153 z154 z155 z156 z158 z159
              refine mv_aload_n d_TrustDeskModel_near_112 rfl rfl ?_
              refine tr_getK (k := 49) q166 d_TrustDeskModel_near_113 f_TrustDeskModel_435_13 ?_
              refine mv_iconst (v := 1) d_TrustDeskModel_near_116 (by decide) ?_
              refine mv_isubv (v := v24) d_TrustDeskModel_near_117 (Int32.add_sub_cancel _ _) ?_
              exact mv_iret d_TrustDeskModel_near_118 rfl (by first | rfl | decide) ⟨_, I165, _, rfl, R168, K184, (by have := R168.1 15 _ _ rfl; have := R168.1 16 _ _ rfl; have := R168.1 19 _ _ rfl; omega)⟩
            · have K185 : rC M111 o0 44 := K133.1 (by omega)
              refine mv_iload_n d_TrustDeskModel_near_90 rfl rfl ?_
              exact mv_iret d_TrustDeskModel_near_91 rfl (by first | rfl | decide) ⟨_, I115, _, rfl, R119, K185, (by have := R119.1 15 _ _ rfl; have := R119.1 16 _ _ rfl; have := R119.1 19 _ _ rfl; omega)⟩
          · exfalso
            have := R87.1 15 _ _ rfl; have := R87.1 16 _ _ rfl; have := R87.1 19 _ _ rfl; omega
        · refine mv_aload_n d_TrustDeskModel_near_43 rfl rfl ?_
          obtain ⟨_, b192, -⟩ := I53.1 _ _ t62
          refine mv_callV (kc' := 0) (ks' := 0) (As := []) (st9 := [.ref o0]) d_TrustDeskModel_near_44 lV_TrustDeskModel_425 b192 rfl (tc_TrustDeskModel_readClause_x (d := d) (x9 := x9) (o0 := o0) t62 R58 K75 (by have := R58.1 15 _ _ rfl; have := R58.1 16 _ _ rfl; have := R58.1 19 _ _ rfl; omega) (by have := R58.1 15 _ _ rfl; have := R58.1 16 _ _ rfl; have := R58.1 19 _ _ rfl; omega) (by have := R58.1 15 _ _ rfl; have := R58.1 16 _ _ rfl; have := R58.1 19 _ _ rfl; omega) (by have := R58.1 15 _ _ rfl; have := R58.1 16 _ _ rfl; have := R58.1 19 _ _ rfl; omega) I53.start) rfl (Nat.le_of_ble_eq_true rfl) (Nat.le_of_ble_eq_true rfl) (Nat.le_of_ble_eq_true rfl) (hst := rfl) (fun b186r M187 n188 b186 => ?_)
          obtain ⟨T189, J190, rfl, R193, f194, f195, f196, f197, f198, f199⟩ := b186
          have I191 := I53.call J190 (tm_sub (by decide)) (Or.inl rfl)
          have t200 := J190.up t62
          replace f197 := Im.i f197
          replace f198 := Im.i f198
          have z201 := (rv_c I53 J190 (I53.up h_o0) (k := 27) rfl).trans z69
          have z202 := (rv_c I53 J190 (I53.up h_o0) (k := 32) rfl).trans z70
          have z203 := (rv_c I53 J190 (I53.up h_o0) (k := 49) rfl).trans z71
          have K204 : rC M187 o0 44 := K74.rO R58 f195 (sA_c I53 J190 (I53.up h_o0) (by decide)) (sF_c I53 J190 (I53.up h_o0) (by decide))
          have K205 : rW M187 o0 := f194
          have h206 : (880 + ra M49 o0 6 44).toNat = 880 := by omega
          rw [h206] at f198
          have K207 : rv M187 o0 19 = 0 → ra M187 o0 7 880 = 8 ∧ ra M187 o0 6 44 = 1 := (fun h9 => ⟨(f198.o (K76 (by omega)) h9).1, by have := (f198.o (K76 (by omega)) h9).2; omega⟩)
          clear z69 z70 z71
          have q208 := J190.keep t62 (by decide) q77
          have q209 := J190.keep t62 (by decide) q78
          refine mv_goto (tgt := 55) d_TrustDeskModel_near_47 (by decide) ?_
          refine mv_aload_n d_TrustDeskModel_near_55 rfl rfl ?_
          obtain ⟨_, b210, -⟩ := I191.1 _ _ t200
          refine mv_callV (kc1 := 0) (ks1 := 0) (kc' := 0) (ks' := 0) (As := []) (st9 := [.ref o0]) d_TrustDeskModel_near_56 lV_TrustDeskModel_230 b210 rfl (mj_enter (by decide) (Nat.le_of_ble_eq_true rfl) ?_) rfl (Nat.le_of_ble_eq_true rfl) (Nat.le_of_ble_eq_true rfl) (Nat.le_of_ble_eq_true rfl) (hst := rfl) (fun _ _ _ h => h)
          refine mv_aload_n d_TrustDeskModel_isWell_0 rfl rfl ?_
          obtain ⟨v212, q211⟩ := tm_atI I191 t200 (k := 19) rfl
          refine tr_getK q211 d_TrustDeskModel_isWell_1 f_TrustDeskModel_224_13 ?_
          have := R193.f (k := 19) q211 rfl
          have := tm_rv q211
          have := mz_hi v212
          refine mv_if_neZ (tgt := 11) (a := v212.toInt) d_TrustDeskModel_isWell_4 (by decide) rfl (fun b213 => ?_) (fun b213 => ?_)
          · refine mv_iconst (v := 0) d_TrustDeskModel_isWell_11 (by decide) ?_
            refine mv_iret d_TrustDeskModel_isWell_12 rfl (by decide) ?_
            refine mv_if_eq_t (tgt := 74) d_TrustDeskModel_near_59 (by decide) (by decide) ?_
            refine mv_aload_n d_TrustDeskModel_near_74 rfl rfl ?_
            refine mv_bipush (v := 32) d_TrustDeskModel_near_75 (by decide) ?_
            refine mv_aload_n d_TrustDeskModel_near_77 rfl rfl ?_
            refine tr_getK (k := 49) q209 d_TrustDeskModel_near_78 f_TrustDeskModel_435_13 ?_
            refine mv_iadd d_TrustDeskModel_near_81 ?_
            obtain ⟨_, b220, -⟩ := I191.1 _ _ t200
            have b221 : (32 + v24 : Int32).toInt = (32 + v24.toInt) := mz_add2 (by decide) rfl (by have := R193.1 15 _ _ rfl; have := R193.1 16 _ _ rfl; have := R193.1 19 _ _ rfl; omega) (by have := R193.1 15 _ _ rfl; have := R193.1 16 _ _ rfl; have := R193.1 19 _ _ rfl; omega)
            refine mv_callV (kc' := 0) (ks' := 0) (As := [.int (32 + v24)]) (st9 := [.int (32 + v24), .ref o0]) d_TrustDeskModel_near_82 lV_TrustDeskModel_388 b220 rfl (tc_TrustDeskModel_stops_x (d := (d + 25)) (x9 := x9) (o0 := o0) (x1 := (32 + v24)) t200 R193 (by have := R193.1 15 _ _ rfl; have := R193.1 16 _ _ rfl; have := R193.1 19 _ _ rfl; omega) I191.start) rfl (Nat.le_of_ble_eq_true rfl) (Nat.le_of_ble_eq_true rfl) (Nat.le_of_ble_eq_true rfl) (hst := rfl) (fun b214r M215 n216 b214 => ?_)
            obtain ⟨T217, J218, v222, rfl, R223, f224, f225⟩ := b214
            have I219 := I191.call J218 (tm_sub (by decide)) (Or.inl rfl)
            have t226 := J218.up t200
            replace f224 := Im.i f224
            replace f225 := Im.i f225
            have z227 := (rv_c I191 J218 (I191.up h_o0) (k := 15) rfl)
            have z228 := (rv_c I191 J218 (I191.up h_o0) (k := 16) rfl)
            have z229 := (rv_c I191 J218 (I191.up h_o0) (k := 17) rfl)
            have z230 := (rv_c I191 J218 (I191.up h_o0) (k := 19) rfl)
            have z231 := (rv_c I191 J218 (I191.up h_o0) (k := 22) rfl)
            have z232 := (rv_c I191 J218 (I191.up h_o0) (k := 24) rfl)
            have z233 := (rv_c I191 J218 (I191.up h_o0) (k := 27) rfl).trans z201
            have z234 := (rv_c I191 J218 (I191.up h_o0) (k := 32) rfl).trans z202
            have z235 := (rv_c I191 J218 (I191.up h_o0) (k := 49) rfl).trans z203
            have K236 : (v222.toInt < 0 → rC M215 o0 44) ∧ (0 ≤ v222.toInt → rC M215 o0 ((32 + v24).toNatClampNeg)) := rC.st K204 R193 K205 (by have := mz_nat9 (i := (32 + v24)) (by have := R193.1 15 _ _ rfl; have := R193.1 16 _ _ rfl; have := R193.1 19 _ _ rfl; omega); have := R193.1 15 _ _ rfl; have := R193.1 16 _ _ rfl; have := R193.1 19 _ _ rfl; omega) (by unfold rU; have := mz_nat9 (i := (32 + v24)) (by have := R193.1 15 _ _ rfl; have := R193.1 16 _ _ rfl; have := R193.1 19 _ _ rfl; omega); have := R193.1 15 _ _ rfl; have := R193.1 16 _ _ rfl; have := R193.1 19 _ _ rfl; omega) f224 f225 (sA_c I191 J218 (I191.up h_o0) (by decide)) (sF_c I191 J218 (I191.up h_o0) (by decide))
            have K237 : 0 ≤ v222.toInt → ra M215 o0 7 (20 * (32 + v24).toNatClampNeg) = 8 := k8_of f224 f225 K207
            clear z201 z202 z203
            have q238 := J218.keep t200 (by decide) q208
            have q239 := J218.keep t200 (by decide) q209
            have q240 := J218.keep t200 (by decide) q211
            refine mv_istore_n (lv' := [(2, .int v222), (0, .ref o0), (1, .int x1)]) d_TrustDeskModel_near_85 rfl (by decide) rfl ?_
            refine mv_iload_n d_TrustDeskModel_near_86 rfl rfl ?_
            have := mz_hi v222
            refine mv_if_geZ (tgt := 92) (a := v222.toInt) d_TrustDeskModel_near_87 (by decide) rfl (fun b241 => ?_) (fun b241 => ?_)
            · have K242 : rC M215 o0 ((32 + v24).toNatClampNeg) := K236.2 (by omega)
              refine mv_aload_n d_TrustDeskModel_near_92 rfl rfl ?_
              obtain ⟨a244, q243, t_a244⟩ := tm_atR I219 t226 (k := 50) rfl
              refine tr_getK q243 d_TrustDeskModel_near_93 f_TrustDeskModel_116_13 ?_
              refine mv_aload_n d_TrustDeskModel_near_96 rfl rfl ?_
              refine tr_getK (k := 49) q239 d_TrustDeskModel_near_97 f_TrustDeskModel_435_13 ?_
              refine mv_iload_n d_TrustDeskModel_near_100 rfl rfl ?_
              refine tr_iastR (k := 50) I219 R223 (I219.up h_o0) q243 t_a244 (by decide) (by decide) (fun lo hi h => by cases h) (Or.inl (by decide)) d_TrustDeskModel_near_101 (vp_in_iff.mpr (by have := R223.1 15 _ _ rfl; have := R223.1 16 _ _ rfl; have := R223.1 19 _ _ rfl; omega)) (fun M245 I246 K247 R248 E249 A250 V251 => ?_)
              have z252 := (V251 15).trans z227
              have z253 := (V251 16).trans z228
              have z254 := (V251 17).trans z229
              have z255 := (V251 19).trans z230
              have z256 := (V251 22).trans z231
              have z257 := (V251 24).trans z232
              have z258 := (V251 27).trans z233
              have z259 := (V251 32).trans z234
              have z260 := (V251 49).trans z235
              have z261 := (A250 5 (by decide) rfl 44)
              have z262 := (A250 6 (by decide) rfl 44)
              have K263 : 0 ≤ v222.toInt → ra M245 o0 7 (20 * (32 + v24).toNatClampNeg) = 8 := (by have e1 := ((sA_a A250 (by decide)) : sA [7] _ _ _) 7 rfl; rw [e1]; exact K237)
              have K264 : rC M245 o0 ((32 + v24).toNatClampNeg) := K242.same (sA_a A250 (by decide)) (sF_a V251)
              clear z227 z228 z229 z231 z232 z233 z234 z235
              refine mv_aload_n d_TrustDeskModel_near_102 rfl rfl ?_
              refine mv_dup d_TrustDeskModel_near_103 rfl ?_
              refine tr_getK (k := 49) (K247 _ 13 49 _ q239) d_TrustDeskModel_near_104 f_TrustDeskModel_435_13 ?_
              refine mv_iconst (v := 1) d_TrustDeskModel_near_107 (by decide) ?_
              refine mv_iadd d_TrustDeskModel_near_108 ?_
              have b265 : (v24 + 1 : Int32).toInt = (v24.toInt + 1) := mz_add2 rfl (by decide) (by have := R248.1 15 _ _ rfl; have := R248.1 16 _ _ rfl; have := R248.1 19 _ _ rfl; omega) (by have := R248.1 15 _ _ rfl; have := R248.1 16 _ _ rfl; have := R248.1 19 _ _ rfl; omega)
              refine tr_putR (k := 49) I246 R248 t226 rfl ⟨_, rfl⟩ (fun _ h => by cases h) rfl (fun lo hi h => by cases h; have := R248.1 15 _ _ rfl; have := R248.1 16 _ _ rfl; have := R248.1 19 _ _ rfl; exact ⟨by show (0 : Int) ≤ (v24 + 1).toInt; omega, by show (v24 + 1).toInt ≤ (12 : Int); omega⟩) (Or.inl (by decide)) d_TrustDeskModel_near_109 p_TrustDeskModel_435_13 rfl rfl (fun M266 I267 q268 K269 R270 A271 V272 => ?_)
              have z273 := (V272 15 (by decide)).trans z252
              have z274 := (V272 16 (by decide)).trans z253
              have z275 := (V272 17 (by decide)).trans z254
              have z276 := (V272 19 (by decide)).trans z255
              have z277 := (V272 22 (by decide)).trans z256
              have z278 := (V272 24 (by decide)).trans z257
              have z279 := (V272 27 (by decide)).trans z258
              have z280 := (V272 32 (by decide)).trans z259
              have z281 := (A271 5 (by decide) 44).trans z261
              have z282 := (A271 6 (by decide) 44).trans z262
              have z283 : rv M266 o0 49 = (v24 + 1).toInt := tm_rv q268
              have K284 : 0 ≤ v222.toInt → ra M266 o0 7 (20 * (32 + v24).toNatClampNeg) = 8 := (by have e1 := ((sA_f A271 (by decide)) : sA [7] _ _ _) 7 rfl; rw [e1]; exact K263)
              have K285 : rC M266 o0 44 := rC.near K264 A271 V272 (by have := mz_nat9 (i := (32 + v24)) (by have := R248.1 15 _ _ rfl; have := R248.1 16 _ _ rfl; have := R248.1 19 _ _ rfl; omega); have := R248.1 15 _ _ rfl; have := R248.1 16 _ _ rfl; have := R248.1 19 _ _ rfl; omega) (by have := R248.1 15 _ _ rfl; have := R248.1 16 _ _ rfl; have := R248.1 19 _ _ rfl; omega) (by have := R248.1 15 _ _ rfl; have := R248.1 16 _ _ rfl; have := R248.1 19 _ _ rfl; omega) (K263 (by omega))
              clear z252 z253 z254 z256 z257 z258 z259 z261 z262
              refine mv_aload_n d_TrustDeskModel_near_112 rfl rfl ?_
              refine tr_getK (k := 49) q268 d_TrustDeskModel_near_113 f_TrustDeskModel_435_13 ?_
              refine mv_iconst (v := 1) d_TrustDeskModel_near_116 (by decide) ?_
              refine mv_isubv (v := v24) d_TrustDeskModel_near_117 (Int32.add_sub_cancel _ _) ?_
              exact mv_iret d_TrustDeskModel_near_118 rfl (by first | rfl | decide) ⟨_, I267, _, rfl, R270, K285, (by have := R270.1 15 _ _ rfl; have := R270.1 16 _ _ rfl; have := R270.1 19 _ _ rfl; omega)⟩
            · have K286 : rC M215 o0 44 := K236.1 (by omega)
              refine mv_iload_n d_TrustDeskModel_near_90 rfl rfl ?_
              exact mv_iret d_TrustDeskModel_near_91 rfl (by first | rfl | decide) ⟨_, I219, _, rfl, R223, K286, (by have := R223.1 15 _ _ rfl; have := R223.1 16 _ _ rfl; have := R223.1 19 _ _ rfl; omega)⟩
          · refine mv_iconst (v := 1) d_TrustDeskModel_isWell_7 (by decide) ?_
            refine mv_goto (tgt := 12) d_TrustDeskModel_isWell_8 (by decide) ?_
            refine mv_iret d_TrustDeskModel_isWell_12 rfl (by decide) ?_
            refine mv_if_eq_f (tgt := 74) d_TrustDeskModel_near_59 (by decide) (by decide) ?_
            refine mv_aload_n d_TrustDeskModel_near_62 rfl rfl ?_
            obtain ⟨v288, q287⟩ := tm_atI I191 t200 (k := 17) rfl
            refine tr_getK q287 d_TrustDeskModel_near_63 f_TrustDeskModel_198_13 ?_
            have := tm_rv q287
            have := mz_hi v288
            refine mv_if_eqZ (tgt := 74) (a := v288.toInt) d_TrustDeskModel_near_66 (by decide) rfl (fun b289 => ?_) (fun b289 => ?_)
            · refine mv_aload_n d_TrustDeskModel_near_74 rfl rfl ?_
              refine mv_bipush (v := 32) d_TrustDeskModel_near_75 (by decide) ?_
              refine mv_aload_n d_TrustDeskModel_near_77 rfl rfl ?_
              refine tr_getK (k := 49) q209 d_TrustDeskModel_near_78 f_TrustDeskModel_435_13 ?_
              refine mv_iadd d_TrustDeskModel_near_81 ?_
              obtain ⟨_, b296, -⟩ := I191.1 _ _ t200
              have b297 : (32 + v24 : Int32).toInt = (32 + v24.toInt) := mz_add2 (by decide) rfl (by have := R193.1 15 _ _ rfl; have := R193.1 16 _ _ rfl; have := R193.1 19 _ _ rfl; omega) (by have := R193.1 15 _ _ rfl; have := R193.1 16 _ _ rfl; have := R193.1 19 _ _ rfl; omega)
              refine mv_callV (kc' := 0) (ks' := 0) (As := [.int (32 + v24)]) (st9 := [.int (32 + v24), .ref o0]) d_TrustDeskModel_near_82 lV_TrustDeskModel_388 b296 rfl (tc_TrustDeskModel_stops_x (d := (d + 25)) (x9 := x9) (o0 := o0) (x1 := (32 + v24)) t200 R193 (by have := R193.1 15 _ _ rfl; have := R193.1 16 _ _ rfl; have := R193.1 19 _ _ rfl; omega) I191.start) rfl (Nat.le_of_ble_eq_true rfl) (Nat.le_of_ble_eq_true rfl) (Nat.le_of_ble_eq_true rfl) (hst := rfl) (fun b290r M291 n292 b290 => ?_)
              obtain ⟨T293, J294, v298, rfl, R299, f300, f301⟩ := b290
              have I295 := I191.call J294 (tm_sub (by decide)) (Or.inl rfl)
              have t302 := J294.up t200
              replace f300 := Im.i f300
              replace f301 := Im.i f301
              have z303 := (rv_c I191 J294 (I191.up h_o0) (k := 15) rfl)
              have z304 := (rv_c I191 J294 (I191.up h_o0) (k := 16) rfl)
              have z305 := (rv_c I191 J294 (I191.up h_o0) (k := 17) rfl)
              have z306 := (rv_c I191 J294 (I191.up h_o0) (k := 19) rfl)
              have z307 := (rv_c I191 J294 (I191.up h_o0) (k := 22) rfl)
              have z308 := (rv_c I191 J294 (I191.up h_o0) (k := 24) rfl)
              have z309 := (rv_c I191 J294 (I191.up h_o0) (k := 27) rfl).trans z201
              have z310 := (rv_c I191 J294 (I191.up h_o0) (k := 32) rfl).trans z202
              have z311 := (rv_c I191 J294 (I191.up h_o0) (k := 49) rfl).trans z203
              have K312 : (v298.toInt < 0 → rC M291 o0 44) ∧ (0 ≤ v298.toInt → rC M291 o0 ((32 + v24).toNatClampNeg)) := rC.st K204 R193 K205 (by have := mz_nat9 (i := (32 + v24)) (by have := R193.1 15 _ _ rfl; have := R193.1 16 _ _ rfl; have := R193.1 19 _ _ rfl; omega); have := R193.1 15 _ _ rfl; have := R193.1 16 _ _ rfl; have := R193.1 19 _ _ rfl; omega) (by unfold rU; have := mz_nat9 (i := (32 + v24)) (by have := R193.1 15 _ _ rfl; have := R193.1 16 _ _ rfl; have := R193.1 19 _ _ rfl; omega); have := R193.1 15 _ _ rfl; have := R193.1 16 _ _ rfl; have := R193.1 19 _ _ rfl; omega) f300 f301 (sA_c I191 J294 (I191.up h_o0) (by decide)) (sF_c I191 J294 (I191.up h_o0) (by decide))
              have K313 : 0 ≤ v298.toInt → ra M291 o0 7 (20 * (32 + v24).toNatClampNeg) = 8 := k8_of f300 f301 K207
              clear z201 z202 z203
              have q314 := J294.keep t200 (by decide) q208
              have q315 := J294.keep t200 (by decide) q209
              have q316 := J294.keep t200 (by decide) q211
              have q317 := J294.keep t200 (by decide) q287
              refine mv_istore_n (lv' := [(2, .int v298), (0, .ref o0), (1, .int x1)]) d_TrustDeskModel_near_85 rfl (by decide) rfl ?_
              refine mv_iload_n d_TrustDeskModel_near_86 rfl rfl ?_
              have := mz_hi v298
              refine mv_if_geZ (tgt := 92) (a := v298.toInt) d_TrustDeskModel_near_87 (by decide) rfl (fun b318 => ?_) (fun b318 => ?_)
              · have K319 : rC M291 o0 ((32 + v24).toNatClampNeg) := K312.2 (by omega)
                refine mv_aload_n d_TrustDeskModel_near_92 rfl rfl ?_
                obtain ⟨a321, q320, t_a321⟩ := tm_atR I295 t302 (k := 50) rfl
                refine tr_getK q320 d_TrustDeskModel_near_93 f_TrustDeskModel_116_13 ?_
                refine mv_aload_n d_TrustDeskModel_near_96 rfl rfl ?_
                refine tr_getK (k := 49) q315 d_TrustDeskModel_near_97 f_TrustDeskModel_435_13 ?_
                refine mv_iload_n d_TrustDeskModel_near_100 rfl rfl ?_
                refine tr_iastR (k := 50) I295 R299 (I295.up h_o0) q320 t_a321 (by decide) (by decide) (fun lo hi h => by cases h) (Or.inl (by decide)) d_TrustDeskModel_near_101 (vp_in_iff.mpr (by have := R299.1 15 _ _ rfl; have := R299.1 16 _ _ rfl; have := R299.1 19 _ _ rfl; omega)) (fun M322 I323 K324 R325 E326 A327 V328 => ?_)
                have z329 := (V328 15).trans z303
                have z330 := (V328 16).trans z304
                have z331 := (V328 17).trans z305
                have z332 := (V328 19).trans z306
                have z333 := (V328 22).trans z307
                have z334 := (V328 24).trans z308
                have z335 := (V328 27).trans z309
                have z336 := (V328 32).trans z310
                have z337 := (V328 49).trans z311
                have z338 := (A327 5 (by decide) rfl 44)
                have z339 := (A327 6 (by decide) rfl 44)
                have K340 : 0 ≤ v298.toInt → ra M322 o0 7 (20 * (32 + v24).toNatClampNeg) = 8 := (by have e1 := ((sA_a A327 (by decide)) : sA [7] _ _ _) 7 rfl; rw [e1]; exact K313)
                have K341 : rC M322 o0 ((32 + v24).toNatClampNeg) := K319.same (sA_a A327 (by decide)) (sF_a V328)
                clear z303 z304 z305 z307 z308 z309 z310 z311
                refine mv_aload_n d_TrustDeskModel_near_102 rfl rfl ?_
                refine mv_dup d_TrustDeskModel_near_103 rfl ?_
                refine tr_getK (k := 49) (K324 _ 13 49 _ q315) d_TrustDeskModel_near_104 f_TrustDeskModel_435_13 ?_
                refine mv_iconst (v := 1) d_TrustDeskModel_near_107 (by decide) ?_
                refine mv_iadd d_TrustDeskModel_near_108 ?_
                have b342 : (v24 + 1 : Int32).toInt = (v24.toInt + 1) := mz_add2 rfl (by decide) (by have := R325.1 15 _ _ rfl; have := R325.1 16 _ _ rfl; have := R325.1 19 _ _ rfl; omega) (by have := R325.1 15 _ _ rfl; have := R325.1 16 _ _ rfl; have := R325.1 19 _ _ rfl; omega)
                refine tr_putR (k := 49) I323 R325 t302 rfl ⟨_, rfl⟩ (fun _ h => by cases h) rfl (fun lo hi h => by cases h; have := R325.1 15 _ _ rfl; have := R325.1 16 _ _ rfl; have := R325.1 19 _ _ rfl; exact ⟨by show (0 : Int) ≤ (v24 + 1).toInt; omega, by show (v24 + 1).toInt ≤ (12 : Int); omega⟩) (Or.inl (by decide)) d_TrustDeskModel_near_109 p_TrustDeskModel_435_13 rfl rfl (fun M343 I344 q345 K346 R347 A348 V349 => ?_)
                have z350 := (V349 15 (by decide)).trans z329
                have z351 := (V349 16 (by decide)).trans z330
                have z352 := (V349 17 (by decide)).trans z331
                have z353 := (V349 19 (by decide)).trans z332
                have z354 := (V349 22 (by decide)).trans z333
                have z355 := (V349 24 (by decide)).trans z334
                have z356 := (V349 27 (by decide)).trans z335
                have z357 := (V349 32 (by decide)).trans z336
                have z358 := (A348 5 (by decide) 44).trans z338
                have z359 := (A348 6 (by decide) 44).trans z339
                have z360 : rv M343 o0 49 = (v24 + 1).toInt := tm_rv q345
                have K361 : 0 ≤ v298.toInt → ra M343 o0 7 (20 * (32 + v24).toNatClampNeg) = 8 := (by have e1 := ((sA_f A348 (by decide)) : sA [7] _ _ _) 7 rfl; rw [e1]; exact K340)
                have K362 : rC M343 o0 44 := rC.near K341 A348 V349 (by have := mz_nat9 (i := (32 + v24)) (by have := R325.1 15 _ _ rfl; have := R325.1 16 _ _ rfl; have := R325.1 19 _ _ rfl; omega); have := R325.1 15 _ _ rfl; have := R325.1 16 _ _ rfl; have := R325.1 19 _ _ rfl; omega) (by have := R325.1 15 _ _ rfl; have := R325.1 16 _ _ rfl; have := R325.1 19 _ _ rfl; omega) (by have := R325.1 15 _ _ rfl; have := R325.1 16 _ _ rfl; have := R325.1 19 _ _ rfl; omega) (K340 (by omega))
                clear z329 z330 z331 z333 z334 z335 z336 z338 z339
                refine mv_aload_n d_TrustDeskModel_near_112 rfl rfl ?_
                refine tr_getK (k := 49) q345 d_TrustDeskModel_near_113 f_TrustDeskModel_435_13 ?_
                refine mv_iconst (v := 1) d_TrustDeskModel_near_116 (by decide) ?_
                refine mv_isubv (v := v24) d_TrustDeskModel_near_117 (Int32.add_sub_cancel _ _) ?_
                exact mv_iret d_TrustDeskModel_near_118 rfl (by first | rfl | decide) ⟨_, I344, _, rfl, R347, K362, (by have := R347.1 15 _ _ rfl; have := R347.1 16 _ _ rfl; have := R347.1 19 _ _ rfl; omega)⟩
              · have K363 : rC M291 o0 44 := K312.1 (by omega)
                refine mv_iload_n d_TrustDeskModel_near_90 rfl rfl ?_
                exact mv_iret d_TrustDeskModel_near_91 rfl (by first | rfl | decide) ⟨_, I295, _, rfl, R299, K363, (by have := R299.1 15 _ _ rfl; have := R299.1 16 _ _ rfl; have := R299.1 19 _ _ rfl; omega)⟩
            · refine mv_aload_n d_TrustDeskModel_near_69 rfl rfl ?_
              refine mv_iconst (v := 1) d_TrustDeskModel_near_70 (by decide) ?_
              obtain ⟨_, b370, -⟩ := I191.1 _ _ t200
              have : (1 : Int32).toInt = 1 := by decide
              refine mv_callV (kc' := 0) (ks' := 0) (As := [.int 1]) (st9 := [.int 1, .ref o0]) d_TrustDeskModel_near_71 lV_TrustDeskModel_240 b370 rfl (tc_TrustDeskModel_fails_x (d := (d + 26)) (x9 := x9) (o0 := o0) (x1 := 1) t200 R193 (by decide) I191.start) rfl (Nat.le_of_ble_eq_true rfl) (Nat.le_of_ble_eq_true rfl) (Nat.le_of_ble_eq_true rfl) (hst := rfl) (fun b364r M365 n366 b364 => ?_)
              obtain ⟨T367, J368, rfl, R371, f372⟩ := b364
              have I369 := I191.call J368 (tm_sub (by decide)) (Or.inl rfl)
              have t373 := J368.up t200
              have z374 := (rv_c I191 J368 (I191.up h_o0) (k := 15) rfl)
              have z375 := (rv_c I191 J368 (I191.up h_o0) (k := 16) rfl)
              have z376 := (rv_c I191 J368 (I191.up h_o0) (k := 17) rfl)
              have z377 := (rv_c I191 J368 (I191.up h_o0) (k := 22) rfl)
              have z378 := (rv_c I191 J368 (I191.up h_o0) (k := 24) rfl)
              have z379 := (rv_c I191 J368 (I191.up h_o0) (k := 27) rfl).trans z201
              have z380 := (rv_c I191 J368 (I191.up h_o0) (k := 32) rfl).trans z202
              have z381 := (rv_c I191 J368 (I191.up h_o0) (k := 49) rfl).trans z203
              have z382 := (ra_call I191 J368 (I191.up h_o0) (k := 5) rfl rfl rfl 44)
              have z383 := (ra_call I191 J368 (I191.up h_o0) (k := 6) rfl rfl rfl 44)
              have K384 : rC M365 o0 44 := K204.same (sA_c I191 J368 (I191.up h_o0) (by decide)) (sF_c I191 J368 (I191.up h_o0) (by decide))
              have K385 : rW M365 o0 := K205.fail (sF_c I191 J368 (I191.up h_o0) (by decide)) f372
              have K386 : rv M365 o0 19 = 0 → ra M365 o0 7 880 = 8 ∧ ra M365 o0 6 44 = 1 := (fun h9 => absurd h9 f372)
              clear z201 z202 z203
              have q387 := J368.keep t200 (by decide) q208
              have q388 := J368.keep t200 (by decide) q209
              have q389 := J368.keep t200 (by decide) q287
              refine mv_aload_n d_TrustDeskModel_near_74 rfl rfl ?_
              refine mv_bipush (v := 32) d_TrustDeskModel_near_75 (by decide) ?_
              refine mv_aload_n d_TrustDeskModel_near_77 rfl rfl ?_
              refine tr_getK (k := 49) q388 d_TrustDeskModel_near_78 f_TrustDeskModel_435_13 ?_
              refine mv_iadd d_TrustDeskModel_near_81 ?_
              obtain ⟨_, b396, -⟩ := I369.1 _ _ t373
              have b397 : (32 + v24 : Int32).toInt = (32 + v24.toInt) := mz_add2 (by decide) rfl (by have := R371.1 15 _ _ rfl; have := R371.1 16 _ _ rfl; have := R371.1 19 _ _ rfl; omega) (by have := R371.1 15 _ _ rfl; have := R371.1 16 _ _ rfl; have := R371.1 19 _ _ rfl; omega)
              refine mv_callV (kc' := 0) (ks' := 0) (As := [.int (32 + v24)]) (st9 := [.int (32 + v24), .ref o0]) d_TrustDeskModel_near_82 lV_TrustDeskModel_388 b396 rfl (tc_TrustDeskModel_stops_x (d := (d + 25)) (x9 := x9) (o0 := o0) (x1 := (32 + v24)) t373 R371 (by have := R371.1 15 _ _ rfl; have := R371.1 16 _ _ rfl; have := R371.1 19 _ _ rfl; omega) I369.start) rfl (Nat.le_of_ble_eq_true rfl) (Nat.le_of_ble_eq_true rfl) (Nat.le_of_ble_eq_true rfl) (hst := rfl) (fun b390r M391 n392 b390 => ?_)
              obtain ⟨T393, J394, v398, rfl, R399, f400, f401⟩ := b390
              have I395 := I369.call J394 (tm_sub (by decide)) (Or.inl rfl)
              have t402 := J394.up t373
              replace f400 := Im.i f400
              replace f401 := Im.i f401
              have z403 := (rv_c I369 J394 (I369.up h_o0) (k := 15) rfl).trans z374
              have z404 := (rv_c I369 J394 (I369.up h_o0) (k := 16) rfl).trans z375
              have z405 := (rv_c I369 J394 (I369.up h_o0) (k := 17) rfl).trans z376
              have z406 := (rv_c I369 J394 (I369.up h_o0) (k := 19) rfl)
              have z407 := (rv_c I369 J394 (I369.up h_o0) (k := 22) rfl).trans z377
              have z408 := (rv_c I369 J394 (I369.up h_o0) (k := 24) rfl).trans z378
              have z409 := (rv_c I369 J394 (I369.up h_o0) (k := 27) rfl).trans z379
              have z410 := (rv_c I369 J394 (I369.up h_o0) (k := 32) rfl).trans z380
              have z411 := (rv_c I369 J394 (I369.up h_o0) (k := 49) rfl).trans z381
              have K412 : (v398.toInt < 0 → rC M391 o0 44) ∧ (0 ≤ v398.toInt → rC M391 o0 ((32 + v24).toNatClampNeg)) := rC.st K384 R371 K385 (by have := mz_nat9 (i := (32 + v24)) (by have := R371.1 15 _ _ rfl; have := R371.1 16 _ _ rfl; have := R371.1 19 _ _ rfl; omega); have := R371.1 15 _ _ rfl; have := R371.1 16 _ _ rfl; have := R371.1 19 _ _ rfl; omega) (by unfold rU; have := mz_nat9 (i := (32 + v24)) (by have := R371.1 15 _ _ rfl; have := R371.1 16 _ _ rfl; have := R371.1 19 _ _ rfl; omega); have := R371.1 15 _ _ rfl; have := R371.1 16 _ _ rfl; have := R371.1 19 _ _ rfl; omega) f400 f401 (sA_c I369 J394 (I369.up h_o0) (by decide)) (sF_c I369 J394 (I369.up h_o0) (by decide))
              have K413 : 0 ≤ v398.toInt → ra M391 o0 7 (20 * (32 + v24).toNatClampNeg) = 8 := k8_of f400 f401 K386
              clear z374 z375 z376 z377 z378 z379 z380 z381
              have q414 := J394.keep t373 (by decide) q387
              have q415 := J394.keep t373 (by decide) q388
              have q416 := J394.keep t373 (by decide) q389
              refine mv_istore_n (lv' := [(2, .int v398), (0, .ref o0), (1, .int x1)]) d_TrustDeskModel_near_85 rfl (by decide) rfl ?_
              refine mv_iload_n d_TrustDeskModel_near_86 rfl rfl ?_
              have := mz_hi v398
              refine mv_if_geZ (tgt := 92) (a := v398.toInt) d_TrustDeskModel_near_87 (by decide) rfl (fun b417 => ?_) (fun b417 => ?_)
              · have K418 : rC M391 o0 ((32 + v24).toNatClampNeg) := K412.2 (by omega)
                refine mv_aload_n d_TrustDeskModel_near_92 rfl rfl ?_
                obtain ⟨a420, q419, t_a420⟩ := tm_atR I395 t402 (k := 50) rfl
                refine tr_getK q419 d_TrustDeskModel_near_93 f_TrustDeskModel_116_13 ?_
                refine mv_aload_n d_TrustDeskModel_near_96 rfl rfl ?_
                refine tr_getK (k := 49) q415 d_TrustDeskModel_near_97 f_TrustDeskModel_435_13 ?_
                refine mv_iload_n d_TrustDeskModel_near_100 rfl rfl ?_
                refine tr_iastR (k := 50) I395 R399 (I395.up h_o0) q419 t_a420 (by decide) (by decide) (fun lo hi h => by cases h) (Or.inl (by decide)) d_TrustDeskModel_near_101 (vp_in_iff.mpr (by have := R399.1 15 _ _ rfl; have := R399.1 16 _ _ rfl; have := R399.1 19 _ _ rfl; omega)) (fun M421 I422 K423 R424 E425 A426 V427 => ?_)
                have z428 := (V427 15).trans z403
                have z429 := (V427 16).trans z404
                have z430 := (V427 17).trans z405
                have z431 := (V427 19).trans z406
                have z432 := (V427 22).trans z407
                have z433 := (V427 24).trans z408
                have z434 := (V427 27).trans z409
                have z435 := (V427 32).trans z410
                have z436 := (V427 49).trans z411
                have z437 := (A426 5 (by decide) rfl 44)
                have z438 := (A426 6 (by decide) rfl 44)
                have K439 : 0 ≤ v398.toInt → ra M421 o0 7 (20 * (32 + v24).toNatClampNeg) = 8 := (by have e1 := ((sA_a A426 (by decide)) : sA [7] _ _ _) 7 rfl; rw [e1]; exact K413)
                have K440 : rC M421 o0 ((32 + v24).toNatClampNeg) := K418.same (sA_a A426 (by decide)) (sF_a V427)
                clear z403 z404 z405 z407 z408 z409 z410 z411
                refine mv_aload_n d_TrustDeskModel_near_102 rfl rfl ?_
                refine mv_dup d_TrustDeskModel_near_103 rfl ?_
                refine tr_getK (k := 49) (K423 _ 13 49 _ q415) d_TrustDeskModel_near_104 f_TrustDeskModel_435_13 ?_
                refine mv_iconst (v := 1) d_TrustDeskModel_near_107 (by decide) ?_
                refine mv_iadd d_TrustDeskModel_near_108 ?_
                have b441 : (v24 + 1 : Int32).toInt = (v24.toInt + 1) := mz_add2 rfl (by decide) (by have := R424.1 15 _ _ rfl; have := R424.1 16 _ _ rfl; have := R424.1 19 _ _ rfl; omega) (by have := R424.1 15 _ _ rfl; have := R424.1 16 _ _ rfl; have := R424.1 19 _ _ rfl; omega)
                refine tr_putR (k := 49) I422 R424 t402 rfl ⟨_, rfl⟩ (fun _ h => by cases h) rfl (fun lo hi h => by cases h; have := R424.1 15 _ _ rfl; have := R424.1 16 _ _ rfl; have := R424.1 19 _ _ rfl; exact ⟨by show (0 : Int) ≤ (v24 + 1).toInt; omega, by show (v24 + 1).toInt ≤ (12 : Int); omega⟩) (Or.inl (by decide)) d_TrustDeskModel_near_109 p_TrustDeskModel_435_13 rfl rfl (fun M442 I443 q444 K445 R446 A447 V448 => ?_)
                have z449 := (V448 15 (by decide)).trans z428
                have z450 := (V448 16 (by decide)).trans z429
                have z451 := (V448 17 (by decide)).trans z430
                have z452 := (V448 19 (by decide)).trans z431
                have z453 := (V448 22 (by decide)).trans z432
                have z454 := (V448 24 (by decide)).trans z433
                have z455 := (V448 27 (by decide)).trans z434
                have z456 := (V448 32 (by decide)).trans z435
                have z457 := (A447 5 (by decide) 44).trans z437
                have z458 := (A447 6 (by decide) 44).trans z438
                have z459 : rv M442 o0 49 = (v24 + 1).toInt := tm_rv q444
                have K460 : 0 ≤ v398.toInt → ra M442 o0 7 (20 * (32 + v24).toNatClampNeg) = 8 := (by have e1 := ((sA_f A447 (by decide)) : sA [7] _ _ _) 7 rfl; rw [e1]; exact K439)
                have K461 : rC M442 o0 44 := rC.near K440 A447 V448 (by have := mz_nat9 (i := (32 + v24)) (by have := R424.1 15 _ _ rfl; have := R424.1 16 _ _ rfl; have := R424.1 19 _ _ rfl; omega); have := R424.1 15 _ _ rfl; have := R424.1 16 _ _ rfl; have := R424.1 19 _ _ rfl; omega) (by have := R424.1 15 _ _ rfl; have := R424.1 16 _ _ rfl; have := R424.1 19 _ _ rfl; omega) (by have := R424.1 15 _ _ rfl; have := R424.1 16 _ _ rfl; have := R424.1 19 _ _ rfl; omega) (K439 (by omega))
                clear z428 z429 z430 z432 z433 z434 z435 z437 z438
                refine mv_aload_n d_TrustDeskModel_near_112 rfl rfl ?_
                refine tr_getK (k := 49) q444 d_TrustDeskModel_near_113 f_TrustDeskModel_435_13 ?_
                refine mv_iconst (v := 1) d_TrustDeskModel_near_116 (by decide) ?_
                refine mv_isubv (v := v24) d_TrustDeskModel_near_117 (Int32.add_sub_cancel _ _) ?_
                exact mv_iret d_TrustDeskModel_near_118 rfl (by first | rfl | decide) ⟨_, I443, _, rfl, R446, K461, (by have := R446.1 15 _ _ rfl; have := R446.1 16 _ _ rfl; have := R446.1 19 _ _ rfl; omega)⟩
              · have K462 : rC M391 o0 44 := K412.1 (by omega)
                refine mv_iload_n d_TrustDeskModel_near_90 rfl rfl ?_
                exact mv_iret d_TrustDeskModel_near_91 rfl (by first | rfl | decide) ⟨_, I395, _, rfl, R399, K462, (by have := R399.1 15 _ _ rfl; have := R399.1 16 _ _ rfl; have := R399.1 19 _ _ rfl; omega)⟩
      · refine mv_iconst (v := (-1)) d_TrustDeskModel_near_26 (by decide) ?_
        exact mv_iret d_TrustDeskModel_near_27 rfl (by first | rfl | decide) ⟨_, I3, _, rfl, R6, K20, (by have := R6.1 15 _ _ rfl; have := R6.1 16 _ _ rfl; have := R6.1 19 _ _ rfl; omega)⟩
abbrev kY_TrustDeskModel_addEnd : mj_Y := (⟨"TrustDeskModel", "addEnd", "(IIIIII)V"⟩, prog_14_method_54_code, 8, (Option.none : Option Jvm.ClassFile.FieldType))
theorem d_TrustDeskModel_addEnd_0 : decode kY_TrustDeskModel_addEnd.2.1 0 = .ok (.bipush 80, 2) := by decide +kernel
theorem d_TrustDeskModel_addEnd_2 : decode kY_TrustDeskModel_addEnd.2.1 2 = .ok (.iload_n 1, 1) := by decide +kernel
theorem d_TrustDeskModel_addEnd_3 : decode kY_TrustDeskModel_addEnd.2.1 3 = .ok (.imul, 1) := by decide +kernel
theorem d_TrustDeskModel_addEnd_4 : decode kY_TrustDeskModel_addEnd.2.1 4 = .ok (.aload_n 0, 1) := by decide +kernel
theorem d_TrustDeskModel_addEnd_5 : decode kY_TrustDeskModel_addEnd.2.1 5 = .ok (.getfield 98, 3) := by decide +kernel
theorem f_TrustDeskModel_98_13 : mj_fl "TrustDeskModel" 98 13 43 := ⟨kR_TrustDeskModel, kF_TrustDeskModel, 72, "TrustDeskModel", rfl, kg_13, by decide, (mj_in1 (List.mem_of_getElem? (i := 1429) (by decide +kernel)) rfl), Or.inl rfl⟩
theorem d_TrustDeskModel_addEnd_8 : decode kY_TrustDeskModel_addEnd.2.1 8 = .ok (.iload_n 1, 1) := by decide +kernel
theorem d_TrustDeskModel_addEnd_9 : decode kY_TrustDeskModel_addEnd.2.1 9 = .ok (.iaload, 1) := by decide +kernel
theorem d_TrustDeskModel_addEnd_10 : decode kY_TrustDeskModel_addEnd.2.1 10 = .ok (.iadd, 1) := by decide +kernel
theorem d_TrustDeskModel_addEnd_11 : decode kY_TrustDeskModel_addEnd.2.1 11 = .ok (.istore 7, 2) := by decide +kernel
theorem d_TrustDeskModel_addEnd_13 : decode kY_TrustDeskModel_addEnd.2.1 13 = .ok (.aload_n 0, 1) := by decide +kernel
theorem d_TrustDeskModel_addEnd_14 : decode kY_TrustDeskModel_addEnd.2.1 14 = .ok (.getfield 101, 3) := by decide +kernel
theorem f_TrustDeskModel_101_13 : mj_fl "TrustDeskModel" 101 13 44 := ⟨kR_TrustDeskModel, kF_TrustDeskModel, 72, "TrustDeskModel", rfl, kg_13, by decide, (mj_in1 (List.mem_of_getElem? (i := 1430) (by decide +kernel)) rfl), Or.inl rfl⟩
theorem d_TrustDeskModel_addEnd_17 : decode kY_TrustDeskModel_addEnd.2.1 17 = .ok (.iload 7, 2) := by decide +kernel
theorem d_TrustDeskModel_addEnd_19 : decode kY_TrustDeskModel_addEnd.2.1 19 = .ok (.iload_n 2, 1) := by decide +kernel
theorem d_TrustDeskModel_addEnd_20 : decode kY_TrustDeskModel_addEnd.2.1 20 = .ok (.iastore, 1) := by decide +kernel
theorem d_TrustDeskModel_addEnd_21 : decode kY_TrustDeskModel_addEnd.2.1 21 = .ok (.aload_n 0, 1) := by decide +kernel
theorem d_TrustDeskModel_addEnd_22 : decode kY_TrustDeskModel_addEnd.2.1 22 = .ok (.getfield 104, 3) := by decide +kernel
theorem f_TrustDeskModel_104_13 : mj_fl "TrustDeskModel" 104 13 45 := ⟨kR_TrustDeskModel, kF_TrustDeskModel, 72, "TrustDeskModel", rfl, kg_13, by decide, (mj_in1 (List.mem_of_getElem? (i := 1431) (by decide +kernel)) rfl), Or.inl rfl⟩
theorem d_TrustDeskModel_addEnd_25 : decode kY_TrustDeskModel_addEnd.2.1 25 = .ok (.iload 7, 2) := by decide +kernel
theorem d_TrustDeskModel_addEnd_27 : decode kY_TrustDeskModel_addEnd.2.1 27 = .ok (.iload_n 3, 1) := by decide +kernel
theorem d_TrustDeskModel_addEnd_28 : decode kY_TrustDeskModel_addEnd.2.1 28 = .ok (.iastore, 1) := by decide +kernel
theorem d_TrustDeskModel_addEnd_29 : decode kY_TrustDeskModel_addEnd.2.1 29 = .ok (.aload_n 0, 1) := by decide +kernel
theorem d_TrustDeskModel_addEnd_30 : decode kY_TrustDeskModel_addEnd.2.1 30 = .ok (.getfield 107, 3) := by decide +kernel
theorem f_TrustDeskModel_107_13 : mj_fl "TrustDeskModel" 107 13 46 := ⟨kR_TrustDeskModel, kF_TrustDeskModel, 72, "TrustDeskModel", rfl, kg_13, by decide, (mj_in1 (List.mem_of_getElem? (i := 1432) (by decide +kernel)) rfl), Or.inl rfl⟩
theorem d_TrustDeskModel_addEnd_33 : decode kY_TrustDeskModel_addEnd.2.1 33 = .ok (.iload 7, 2) := by decide +kernel
theorem d_TrustDeskModel_addEnd_35 : decode kY_TrustDeskModel_addEnd.2.1 35 = .ok (.iload 4, 2) := by decide +kernel
theorem d_TrustDeskModel_addEnd_37 : decode kY_TrustDeskModel_addEnd.2.1 37 = .ok (.iastore, 1) := by decide +kernel
theorem d_TrustDeskModel_addEnd_38 : decode kY_TrustDeskModel_addEnd.2.1 38 = .ok (.aload_n 0, 1) := by decide +kernel
theorem d_TrustDeskModel_addEnd_39 : decode kY_TrustDeskModel_addEnd.2.1 39 = .ok (.getfield 110, 3) := by decide +kernel
theorem f_TrustDeskModel_110_13 : mj_fl "TrustDeskModel" 110 13 47 := ⟨kR_TrustDeskModel, kF_TrustDeskModel, 72, "TrustDeskModel", rfl, kg_13, by decide, (mj_in1 (List.mem_of_getElem? (i := 1433) (by decide +kernel)) rfl), Or.inl rfl⟩
theorem d_TrustDeskModel_addEnd_42 : decode kY_TrustDeskModel_addEnd.2.1 42 = .ok (.iload 7, 2) := by decide +kernel
theorem d_TrustDeskModel_addEnd_44 : decode kY_TrustDeskModel_addEnd.2.1 44 = .ok (.iload 5, 2) := by decide +kernel
theorem d_TrustDeskModel_addEnd_46 : decode kY_TrustDeskModel_addEnd.2.1 46 = .ok (.iastore, 1) := by decide +kernel
theorem d_TrustDeskModel_addEnd_47 : decode kY_TrustDeskModel_addEnd.2.1 47 = .ok (.aload_n 0, 1) := by decide +kernel
theorem d_TrustDeskModel_addEnd_48 : decode kY_TrustDeskModel_addEnd.2.1 48 = .ok (.getfield 113, 3) := by decide +kernel
theorem f_TrustDeskModel_113_13 : mj_fl "TrustDeskModel" 113 13 48 := ⟨kR_TrustDeskModel, kF_TrustDeskModel, 72, "TrustDeskModel", rfl, kg_13, by decide, (mj_in1 (List.mem_of_getElem? (i := 1434) (by decide +kernel)) rfl), Or.inl rfl⟩
theorem d_TrustDeskModel_addEnd_51 : decode kY_TrustDeskModel_addEnd.2.1 51 = .ok (.iload 7, 2) := by decide +kernel
theorem d_TrustDeskModel_addEnd_53 : decode kY_TrustDeskModel_addEnd.2.1 53 = .ok (.iload 6, 2) := by decide +kernel
theorem d_TrustDeskModel_addEnd_55 : decode kY_TrustDeskModel_addEnd.2.1 55 = .ok (.iastore, 1) := by decide +kernel
theorem d_TrustDeskModel_addEnd_56 : decode kY_TrustDeskModel_addEnd.2.1 56 = .ok (.aload_n 0, 1) := by decide +kernel
theorem d_TrustDeskModel_addEnd_57 : decode kY_TrustDeskModel_addEnd.2.1 57 = .ok (.getfield 98, 3) := by decide +kernel
theorem d_TrustDeskModel_addEnd_60 : decode kY_TrustDeskModel_addEnd.2.1 60 = .ok (.iload_n 1, 1) := by decide +kernel
theorem d_TrustDeskModel_addEnd_61 : decode kY_TrustDeskModel_addEnd.2.1 61 = .ok (.dup2, 1) := by decide +kernel
theorem d_TrustDeskModel_addEnd_62 : decode kY_TrustDeskModel_addEnd.2.1 62 = .ok (.iaload, 1) := by decide +kernel
theorem d_TrustDeskModel_addEnd_63 : decode kY_TrustDeskModel_addEnd.2.1 63 = .ok (.iconst 1, 1) := by decide +kernel
theorem d_TrustDeskModel_addEnd_64 : decode kY_TrustDeskModel_addEnd.2.1 64 = .ok (.iadd, 1) := by decide +kernel
theorem d_TrustDeskModel_addEnd_65 : decode kY_TrustDeskModel_addEnd.2.1 65 = .ok (.iastore, 1) := by decide +kernel
theorem d_TrustDeskModel_addEnd_66 : decode kY_TrustDeskModel_addEnd.2.1 66 = .ok (.return_, 1) := by decide +kernel
def w_TrustDeskModel_addEnd_x : List Nat := [20043, 20044, 20045, 20046, 20047, 20048]
set_option maxHeartbeats 100000000 in theorem tc_TrustDeskModel_addEnd_x {g : mj_G} {l : Launch} {d : Nat} {T0 : tm_H} {M0 : mj_M} {n0 x9 : Nat} {o0 : Nat} {x1 : Int32} {x2 : Int32} {x3 : Int32} {x4 : Int32} {x5 : Int32} {x6 : Int32} (h_o0 : T0 o0 = some (0, 13, 0)) (hn0 : 0 ≤ x1.toInt ∧ x1.toInt ≤ 11) (hn1 : 0 ≤ x2.toInt ∧ x2.toInt ≤ 43) (hn2 : 0 ≤ x3.toInt ∧ x3.toInt ≤ 899) (yR : rI M0 o0) (ya : ra M0 o0 43 x1.toNatClampNeg ≤ 71) (I0 : tm_I tm_FT (tm_in w_TrustDeskModel_addEnd_x) x9 T0 M0 n0 T0 M0 n0) : mj_Met g l kY_TrustDeskModel_addEnd d [.ref o0, .int x1, .int x2, .int x3, .int x4, .int x5, .int x6] M0 n0 0 0 (tm_Q tm_FT (tm_in w_TrustDeskModel_addEnd_x) x9 T0 M0 n0 (fun r _ M => r = none ∧ rI M o0 ∧ (rAd M0 M o0 x1.toNatClampNeg x2.toInt x3.toInt))) := by
  refine mj_enter (by decide) (Nat.le_of_ble_eq_true rfl) ?_
  have K1 : sA [43] M0 M0 o0 := sA.rf
  have K2 : sA [44] M0 M0 o0 := sA.rf
  have K3 : sA [45] M0 M0 o0 := sA.rf
  refine mv_bipush (v := 80) d_TrustDeskModel_addEnd_0 (by decide) ?_
  refine mv_iload_n d_TrustDeskModel_addEnd_2 rfl rfl ?_
  refine mv_imul d_TrustDeskModel_addEnd_3 ?_
  refine mv_aload_n d_TrustDeskModel_addEnd_4 rfl rfl ?_
  obtain ⟨a5, q4, t_a5⟩ := tm_atR I0 h_o0 (k := 43) rfl
  refine tr_getK q4 d_TrustDeskModel_addEnd_5 f_TrustDeskModel_98_13 ?_
  refine mv_iload_n d_TrustDeskModel_addEnd_8 rfl rfl ?_
  refine tr_ialdR (o := o0) (k := 43) I0 q4 t_a5 (by decide) d_TrustDeskModel_addEnd_9 (vp_in_iff.mpr (by have := yR.1 15 _ _ rfl; have := yR.1 16 _ _ rfl; have := yR.1 19 _ _ rfl; omega)) (fun v6 e7 => ?_)
  have := yR.a (k := 43) rfl (x1 : Int32).toNatClampNeg
  refine mv_iadd d_TrustDeskModel_addEnd_10 ?_
  refine mv_istore (lv' := [(7, .int ((80 * x1) + v6)), (0, .ref o0), (1, .int x1), (2, .int x2), (3, .int x3), (4, .int x4), (5, .int x5), (6, .int x6)]) d_TrustDeskModel_addEnd_11 (by decide) rfl ?_
  refine mv_aload_n d_TrustDeskModel_addEnd_13 rfl rfl ?_
  obtain ⟨a9, q8, t_a9⟩ := tm_atR I0 h_o0 (k := 44) rfl
  refine tr_getK q8 d_TrustDeskModel_addEnd_14 f_TrustDeskModel_101_13 ?_
  refine mv_iload d_TrustDeskModel_addEnd_17 rfl ?_
  refine mv_iload_n d_TrustDeskModel_addEnd_19 rfl rfl ?_
  have b10 : (80 * x1 : Int32).toInt = (80 * x1.toInt) := mz_mul2 (by decide) rfl (by have := yR.1 15 _ _ rfl; have := yR.1 16 _ _ rfl; have := yR.1 19 _ _ rfl; omega) (by have := yR.1 15 _ _ rfl; have := yR.1 16 _ _ rfl; have := yR.1 19 _ _ rfl; omega)
  have b11 : ((80 * x1) + v6 : Int32).toInt = ((80 * x1.toInt) + v6.toInt) := mz_add2 b10 rfl (by have := yR.1 15 _ _ rfl; have := yR.1 16 _ _ rfl; have := yR.1 19 _ _ rfl; omega) (by have := yR.1 15 _ _ rfl; have := yR.1 16 _ _ rfl; have := yR.1 19 _ _ rfl; omega)
  refine tr_iastR (k := 44) I0 yR (I0.up h_o0) q8 t_a9 (by decide) (by decide) (fun lo hi h => by cases h; have := yR.1 15 _ _ rfl; have := yR.1 16 _ _ rfl; have := yR.1 19 _ _ rfl; exact ⟨by show (0 : Int) ≤ x2.toInt; omega, by show x2.toInt ≤ (43 : Int); omega⟩) (Or.inl (by decide)) d_TrustDeskModel_addEnd_20 (vp_in_iff.mpr (by have := yR.1 15 _ _ rfl; have := yR.1 16 _ _ rfl; have := yR.1 19 _ _ rfl; omega)) (fun M12 I13 K14 R15 E16 A17 V18 => ?_)
  have K19 : sA [43] M0 M12 o0 := K1.trans (sA_a A17 (by decide))
  have K20 : sA [45] M0 M12 o0 := K3.trans (sA_a A17 (by decide))
  have K21 : ∀ i : Nat, ra M12 o0 44 i = if (i : Int) = 80 * x1.toNatClampNeg + ra M0 o0 43 x1.toNatClampNeg then x2.toInt else ra M0 o0 44 i := fun i => by have e9 := ad_of E16 (show ((((80 * x1) + v6)).toNatClampNeg : Int) = 80 * x1.toNatClampNeg + ra M0 o0 43 x1.toNatClampNeg by have := mz_nat9 (i := ((80 * x1) + v6)) (by have := yR.1 15 _ _ rfl; have := yR.1 16 _ _ rfl; have := yR.1 19 _ _ rfl; omega); have := mz_nat9 (i := x1) (by have := yR.1 15 _ _ rfl; have := yR.1 16 _ _ rfl; have := yR.1 19 _ _ rfl; omega); have := yR.1 15 _ _ rfl; have := yR.1 16 _ _ rfl; have := yR.1 19 _ _ rfl; omega) i; rw [e9]; have e8 := K2 44 rfl; rw [e8]
  refine mv_aload_n d_TrustDeskModel_addEnd_21 rfl rfl ?_
  obtain ⟨a23, q22, t_a23⟩ := tm_atR I13 h_o0 (k := 45) rfl
  refine tr_getK q22 d_TrustDeskModel_addEnd_22 f_TrustDeskModel_104_13 ?_
  refine mv_iload d_TrustDeskModel_addEnd_25 rfl ?_
  refine mv_iload_n d_TrustDeskModel_addEnd_27 rfl rfl ?_
  have b24 : (80 * x1 : Int32).toInt = (80 * x1.toInt) := mz_mul2 (by decide) rfl (by have := R15.1 15 _ _ rfl; have := R15.1 16 _ _ rfl; have := R15.1 19 _ _ rfl; omega) (by have := R15.1 15 _ _ rfl; have := R15.1 16 _ _ rfl; have := R15.1 19 _ _ rfl; omega)
  have b25 : ((80 * x1) + v6 : Int32).toInt = ((80 * x1.toInt) + v6.toInt) := mz_add2 b24 rfl (by have := R15.1 15 _ _ rfl; have := R15.1 16 _ _ rfl; have := R15.1 19 _ _ rfl; omega) (by have := R15.1 15 _ _ rfl; have := R15.1 16 _ _ rfl; have := R15.1 19 _ _ rfl; omega)
  refine tr_iastR (k := 45) I13 R15 (I13.up h_o0) q22 t_a23 (by decide) (by decide) (fun lo hi h => by cases h; have := R15.1 15 _ _ rfl; have := R15.1 16 _ _ rfl; have := R15.1 19 _ _ rfl; exact ⟨by show (0 : Int) ≤ x3.toInt; omega, by show x3.toInt ≤ (899 : Int); omega⟩) (Or.inl (by decide)) d_TrustDeskModel_addEnd_28 (vp_in_iff.mpr (by have := R15.1 15 _ _ rfl; have := R15.1 16 _ _ rfl; have := R15.1 19 _ _ rfl; omega)) (fun M26 I27 K28 R29 E30 A31 V32 => ?_)
  have K33 : sA [43] M0 M26 o0 := K19.trans (sA_a A31 (by decide))
  have K34 : ∀ i : Nat, ra M26 o0 44 i = if (i : Int) = 80 * x1.toNatClampNeg + ra M0 o0 43 x1.toNatClampNeg then x2.toInt else ra M0 o0 44 i := (by have e9 := ((sA_a A31 (by decide)) : sA [44] _ _ _) 44 rfl; rw [e9]; exact K21)
  have K35 : ∀ i : Nat, ra M26 o0 45 i = if (i : Int) = 80 * x1.toNatClampNeg + ra M0 o0 43 x1.toNatClampNeg then x3.toInt else ra M0 o0 45 i := fun i => by have e9 := ad_of E30 (show ((((80 * x1) + v6)).toNatClampNeg : Int) = 80 * x1.toNatClampNeg + ra M0 o0 43 x1.toNatClampNeg by have := mz_nat9 (i := ((80 * x1) + v6)) (by have := R15.1 15 _ _ rfl; have := R15.1 16 _ _ rfl; have := R15.1 19 _ _ rfl; omega); have := mz_nat9 (i := x1) (by have := R15.1 15 _ _ rfl; have := R15.1 16 _ _ rfl; have := R15.1 19 _ _ rfl; omega); have := R15.1 15 _ _ rfl; have := R15.1 16 _ _ rfl; have := R15.1 19 _ _ rfl; omega) i; rw [e9]; have e8 := K20 45 rfl; rw [e8]
  refine mv_aload_n d_TrustDeskModel_addEnd_29 rfl rfl ?_
  obtain ⟨a37, q36, t_a37⟩ := tm_atR I27 h_o0 (k := 46) rfl
  refine tr_getK q36 d_TrustDeskModel_addEnd_30 f_TrustDeskModel_107_13 ?_
  refine mv_iload d_TrustDeskModel_addEnd_33 rfl ?_
  refine mv_iload d_TrustDeskModel_addEnd_35 rfl ?_
  have b38 : (80 * x1 : Int32).toInt = (80 * x1.toInt) := mz_mul2 (by decide) rfl (by have := R29.1 15 _ _ rfl; have := R29.1 16 _ _ rfl; have := R29.1 19 _ _ rfl; omega) (by have := R29.1 15 _ _ rfl; have := R29.1 16 _ _ rfl; have := R29.1 19 _ _ rfl; omega)
  have b39 : ((80 * x1) + v6 : Int32).toInt = ((80 * x1.toInt) + v6.toInt) := mz_add2 b38 rfl (by have := R29.1 15 _ _ rfl; have := R29.1 16 _ _ rfl; have := R29.1 19 _ _ rfl; omega) (by have := R29.1 15 _ _ rfl; have := R29.1 16 _ _ rfl; have := R29.1 19 _ _ rfl; omega)
  refine tr_iastR (k := 46) I27 R29 (I27.up h_o0) q36 t_a37 (by decide) (by decide) (fun lo hi h => by cases h) (Or.inl (by decide)) d_TrustDeskModel_addEnd_37 (vp_in_iff.mpr (by have := R29.1 15 _ _ rfl; have := R29.1 16 _ _ rfl; have := R29.1 19 _ _ rfl; omega)) (fun M40 I41 K42 R43 E44 A45 V46 => ?_)
  have K47 : sA [43] M0 M40 o0 := K33.trans (sA_a A45 (by decide))
  have K48 : ∀ i : Nat, ra M40 o0 44 i = if (i : Int) = 80 * x1.toNatClampNeg + ra M0 o0 43 x1.toNatClampNeg then x2.toInt else ra M0 o0 44 i := (by have e9 := ((sA_a A45 (by decide)) : sA [44] _ _ _) 44 rfl; rw [e9]; exact K34)
  have K49 : ∀ i : Nat, ra M40 o0 45 i = if (i : Int) = 80 * x1.toNatClampNeg + ra M0 o0 43 x1.toNatClampNeg then x3.toInt else ra M0 o0 45 i := (by have e9 := ((sA_a A45 (by decide)) : sA [45] _ _ _) 45 rfl; rw [e9]; exact K35)
  refine mv_aload_n d_TrustDeskModel_addEnd_38 rfl rfl ?_
  obtain ⟨a51, q50, t_a51⟩ := tm_atR I41 h_o0 (k := 47) rfl
  refine tr_getK q50 d_TrustDeskModel_addEnd_39 f_TrustDeskModel_110_13 ?_
  refine mv_iload d_TrustDeskModel_addEnd_42 rfl ?_
  refine mv_iload d_TrustDeskModel_addEnd_44 rfl ?_
  have b52 : (80 * x1 : Int32).toInt = (80 * x1.toInt) := mz_mul2 (by decide) rfl (by have := R43.1 15 _ _ rfl; have := R43.1 16 _ _ rfl; have := R43.1 19 _ _ rfl; omega) (by have := R43.1 15 _ _ rfl; have := R43.1 16 _ _ rfl; have := R43.1 19 _ _ rfl; omega)
  have b53 : ((80 * x1) + v6 : Int32).toInt = ((80 * x1.toInt) + v6.toInt) := mz_add2 b52 rfl (by have := R43.1 15 _ _ rfl; have := R43.1 16 _ _ rfl; have := R43.1 19 _ _ rfl; omega) (by have := R43.1 15 _ _ rfl; have := R43.1 16 _ _ rfl; have := R43.1 19 _ _ rfl; omega)
  refine tr_iastR (k := 47) I41 R43 (I41.up h_o0) q50 t_a51 (by decide) (by decide) (fun lo hi h => by cases h) (Or.inl (by decide)) d_TrustDeskModel_addEnd_46 (vp_in_iff.mpr (by have := R43.1 15 _ _ rfl; have := R43.1 16 _ _ rfl; have := R43.1 19 _ _ rfl; omega)) (fun M54 I55 K56 R57 E58 A59 V60 => ?_)
  have K61 : sA [43] M0 M54 o0 := K47.trans (sA_a A59 (by decide))
  have K62 : ∀ i : Nat, ra M54 o0 44 i = if (i : Int) = 80 * x1.toNatClampNeg + ra M0 o0 43 x1.toNatClampNeg then x2.toInt else ra M0 o0 44 i := (by have e9 := ((sA_a A59 (by decide)) : sA [44] _ _ _) 44 rfl; rw [e9]; exact K48)
  have K63 : ∀ i : Nat, ra M54 o0 45 i = if (i : Int) = 80 * x1.toNatClampNeg + ra M0 o0 43 x1.toNatClampNeg then x3.toInt else ra M0 o0 45 i := (by have e9 := ((sA_a A59 (by decide)) : sA [45] _ _ _) 45 rfl; rw [e9]; exact K49)
  refine mv_aload_n d_TrustDeskModel_addEnd_47 rfl rfl ?_
  obtain ⟨a65, q64, t_a65⟩ := tm_atR I55 h_o0 (k := 48) rfl
  refine tr_getK q64 d_TrustDeskModel_addEnd_48 f_TrustDeskModel_113_13 ?_
  refine mv_iload d_TrustDeskModel_addEnd_51 rfl ?_
  refine mv_iload d_TrustDeskModel_addEnd_53 rfl ?_
  have b66 : (80 * x1 : Int32).toInt = (80 * x1.toInt) := mz_mul2 (by decide) rfl (by have := R57.1 15 _ _ rfl; have := R57.1 16 _ _ rfl; have := R57.1 19 _ _ rfl; omega) (by have := R57.1 15 _ _ rfl; have := R57.1 16 _ _ rfl; have := R57.1 19 _ _ rfl; omega)
  have b67 : ((80 * x1) + v6 : Int32).toInt = ((80 * x1.toInt) + v6.toInt) := mz_add2 b66 rfl (by have := R57.1 15 _ _ rfl; have := R57.1 16 _ _ rfl; have := R57.1 19 _ _ rfl; omega) (by have := R57.1 15 _ _ rfl; have := R57.1 16 _ _ rfl; have := R57.1 19 _ _ rfl; omega)
  refine tr_iastR (k := 48) I55 R57 (I55.up h_o0) q64 t_a65 (by decide) (by decide) (fun lo hi h => by cases h) (Or.inl (by decide)) d_TrustDeskModel_addEnd_55 (vp_in_iff.mpr (by have := R57.1 15 _ _ rfl; have := R57.1 16 _ _ rfl; have := R57.1 19 _ _ rfl; omega)) (fun M68 I69 K70 R71 E72 A73 V74 => ?_)
  have K75 : sA [43] M0 M68 o0 := K61.trans (sA_a A73 (by decide))
  have K76 : ∀ i : Nat, ra M68 o0 44 i = if (i : Int) = 80 * x1.toNatClampNeg + ra M0 o0 43 x1.toNatClampNeg then x2.toInt else ra M0 o0 44 i := (by have e9 := ((sA_a A73 (by decide)) : sA [44] _ _ _) 44 rfl; rw [e9]; exact K62)
  have K77 : ∀ i : Nat, ra M68 o0 45 i = if (i : Int) = 80 * x1.toNatClampNeg + ra M0 o0 43 x1.toNatClampNeg then x3.toInt else ra M0 o0 45 i := (by have e9 := ((sA_a A73 (by decide)) : sA [45] _ _ _) 45 rfl; rw [e9]; exact K63)
  refine mv_aload_n d_TrustDeskModel_addEnd_56 rfl rfl ?_
  refine tr_getK (k := 43) (K70 _ 13 43 _ (K56 _ 13 43 _ (K42 _ 13 43 _ (K28 _ 13 43 _ (K14 _ 13 43 _ q4))))) d_TrustDeskModel_addEnd_57 f_TrustDeskModel_98_13 ?_
  refine mv_iload_n d_TrustDeskModel_addEnd_60 rfl rfl ?_
  refine mv_dup2_11 d_TrustDeskModel_addEnd_61 rfl rfl ?_
  refine tr_ialdR (o := o0) (k := 43) I69 (K70 _ 13 43 _ (K56 _ 13 43 _ (K42 _ 13 43 _ (K28 _ 13 43 _ (K14 _ 13 43 _ q4))))) t_a5 (by decide) d_TrustDeskModel_addEnd_62 (vp_in_iff.mpr (by have := R71.1 15 _ _ rfl; have := R71.1 16 _ _ rfl; have := R71.1 19 _ _ rfl; omega)) (fun v78 e79 => ?_)
  have := R71.a (k := 43) rfl (x1 : Int32).toNatClampNeg
  refine mv_iconst (v := 1) d_TrustDeskModel_addEnd_63 (by decide) ?_
  refine mv_iadd d_TrustDeskModel_addEnd_64 ?_
  have b80 : (v78 + 1 : Int32).toInt = (v78.toInt + 1) := mz_add2 rfl (by decide) (by have := R71.1 15 _ _ rfl; have := R71.1 16 _ _ rfl; have := R71.1 19 _ _ rfl; omega) (by have := R71.1 15 _ _ rfl; have := R71.1 16 _ _ rfl; have := R71.1 19 _ _ rfl; omega)
  refine tr_iastR (k := 43) I69 R71 (I69.up h_o0) (K70 _ 13 43 _ (K56 _ 13 43 _ (K42 _ 13 43 _ (K28 _ 13 43 _ (K14 _ 13 43 _ q4))))) t_a5 (by decide) (by decide) (fun lo hi h => by cases h; have := R71.1 15 _ _ rfl; have := R71.1 16 _ _ rfl; have := R71.1 19 _ _ rfl; exact ⟨by show (0 : Int) ≤ (v78 + 1).toInt; omega, by show (v78 + 1).toInt ≤ (72 : Int); omega⟩) (Or.inl (by decide)) d_TrustDeskModel_addEnd_65 (vp_in_iff.mpr (by have := R71.1 15 _ _ rfl; have := R71.1 16 _ _ rfl; have := R71.1 19 _ _ rfl; omega)) (fun M81 I82 K83 R84 E85 A86 V87 => ?_)
  have K88 : ∀ i : Nat, ra M81 o0 44 i = if (i : Int) = 80 * x1.toNatClampNeg + ra M0 o0 43 x1.toNatClampNeg then x2.toInt else ra M0 o0 44 i := (by have e9 := ((sA_a A86 (by decide)) : sA [44] _ _ _) 44 rfl; rw [e9]; exact K76)
  have K89 : ∀ i : Nat, ra M81 o0 45 i = if (i : Int) = 80 * x1.toNatClampNeg + ra M0 o0 43 x1.toNatClampNeg then x3.toInt else ra M0 o0 45 i := (by have e9 := ((sA_a A86 (by decide)) : sA [45] _ _ _) 45 rfl; rw [e9]; exact K77)
  have K90 : ∀ i : Nat, ra M81 o0 43 i = if i = x1.toNatClampNeg then ra M0 o0 43 x1.toNatClampNeg + 1 else ra M0 o0 43 i := fun i => by have e9 := K75 43 rfl; rw [E85 i, e9]; by_cases h9 : i = x1.toNatClampNeg; (rw [if_pos h9, if_pos h9]; omega); (rw [if_neg h9, if_neg h9])
  exact mv_vret d_TrustDeskModel_addEnd_66 rfl ⟨_, I82, rfl, R84, ⟨K88, K89, K90⟩⟩
abbrev kY_TrustDeskModel_fund : mj_Y := (⟨"TrustDeskModel", "fund", "(II)I"⟩, prog_14_method_55_code, 8, (Option.some Jvm.ClassFile.FieldType.int))
theorem d_TrustDeskModel_fund_0 : decode kY_TrustDeskModel_fund.2.1 0 = .ok (.aload_n 0, 1) := by decide +kernel
theorem d_TrustDeskModel_fund_1 : decode kY_TrustDeskModel_fund.2.1 1 = .ok (.iconst 0, 1) := by decide +kernel
theorem d_TrustDeskModel_fund_2 : decode kY_TrustDeskModel_fund.2.1 2 = .ok (.putfield 1, 3) := by decide +kernel
theorem d_TrustDeskModel_fund_5 : decode kY_TrustDeskModel_fund.2.1 5 = .ok (.iload_n 1, 1) := by decide +kernel
theorem d_TrustDeskModel_fund_6 : decode kY_TrustDeskModel_fund.2.1 6 = .ok (.i2l, 1) := by decide +kernel
theorem d_TrustDeskModel_fund_7 : decode kY_TrustDeskModel_fund.2.1 7 = .ok (.lconst 0, 1) := by decide +kernel
theorem d_TrustDeskModel_fund_8 : decode kY_TrustDeskModel_fund.2.1 8 = .ok (.ldc2_w 421, 3) := by decide +kernel
theorem k_TrustDeskModel_421 : Cond.constantLong "TrustDeskModel" 421 999 ∈ mj_T := (mj_in1 (List.mem_of_getElem? (i := 1793) (by decide +kernel)) rfl)
theorem d_TrustDeskModel_fund_11 : decode kY_TrustDeskModel_fund.2.1 11 = .ok (.invokestatic 169, 3) := by decide +kernel
theorem d_TrustDeskModel_fund_14 : decode kY_TrustDeskModel_fund.2.1 14 = .ok (.ifCond .eq 24, 3) := by decide +kernel
theorem d_TrustDeskModel_fund_38 : decode kY_TrustDeskModel_fund.2.1 38 = .ok (.iconst (-1), 1) := by decide +kernel
theorem d_TrustDeskModel_fund_39 : decode kY_TrustDeskModel_fund.2.1 39 = .ok (.ireturn, 1) := by decide +kernel
theorem d_TrustDeskModel_fund_17 : decode kY_TrustDeskModel_fund.2.1 17 = .ok (.iload_n 2, 1) := by decide +kernel
theorem d_TrustDeskModel_fund_18 : decode kY_TrustDeskModel_fund.2.1 18 = .ok (.i2l, 1) := by decide +kernel
theorem d_TrustDeskModel_fund_19 : decode kY_TrustDeskModel_fund.2.1 19 = .ok (.lconst 0, 1) := by decide +kernel
theorem d_TrustDeskModel_fund_20 : decode kY_TrustDeskModel_fund.2.1 20 = .ok (.ldc2_w 423, 3) := by decide +kernel
theorem k_TrustDeskModel_423 : Cond.constantLong "TrustDeskModel" 423 99999 ∈ mj_T := (mj_in1 (List.mem_of_getElem? (i := 1794) (by decide +kernel)) rfl)
theorem d_TrustDeskModel_fund_23 : decode kY_TrustDeskModel_fund.2.1 23 = .ok (.invokestatic 169, 3) := by decide +kernel
theorem d_TrustDeskModel_fund_26 : decode kY_TrustDeskModel_fund.2.1 26 = .ok (.ifCond .eq 12, 3) := by decide +kernel
theorem d_TrustDeskModel_fund_29 : decode kY_TrustDeskModel_fund.2.1 29 = .ok (.aload_n 0, 1) := by decide +kernel
theorem d_TrustDeskModel_fund_30 : decode kY_TrustDeskModel_fund.2.1 30 = .ok (.getfield 415, 3) := by decide +kernel
theorem f_TrustDeskModel_415_13 : mj_fl "TrustDeskModel" 415 13 32 := ⟨kR_TrustDeskModel, kF_TrustDeskModel, 72, "TrustDeskModel", rfl, kg_13, by decide, (mj_in1 (List.mem_of_getElem? (i := 1418) (by decide +kernel)) rfl), Or.inl rfl⟩
theorem d_TrustDeskModel_fund_33 : decode kY_TrustDeskModel_fund.2.1 33 = .ok (.bipush 12, 2) := by decide +kernel
theorem d_TrustDeskModel_fund_35 : decode kY_TrustDeskModel_fund.2.1 35 = .ok (.if_icmp .ne 5, 3) := by decide +kernel
theorem d_TrustDeskModel_fund_40 : decode kY_TrustDeskModel_fund.2.1 40 = .ok (.aload_n 0, 1) := by decide +kernel
theorem d_TrustDeskModel_fund_41 : decode kY_TrustDeskModel_fund.2.1 41 = .ok (.iconst 0, 1) := by decide +kernel
theorem d_TrustDeskModel_fund_42 : decode kY_TrustDeskModel_fund.2.1 42 = .ok (.invokevirtual 381, 3) := by decide +kernel
theorem d_TrustDeskModel_fund_45 : decode kY_TrustDeskModel_fund.2.1 45 = .ok (.aload_n 0, 1) := by decide +kernel
theorem d_TrustDeskModel_fund_46 : decode kY_TrustDeskModel_fund.2.1 46 = .ok (.invokevirtual 230, 3) := by decide +kernel
theorem d_TrustDeskModel_fund_49 : decode kY_TrustDeskModel_fund.2.1 49 = .ok (.ifCond .eq 17, 3) := by decide +kernel
theorem d_TrustDeskModel_fund_66 : decode kY_TrustDeskModel_fund.2.1 66 = .ok (.bipush 20, 2) := by decide +kernel
theorem d_TrustDeskModel_fund_68 : decode kY_TrustDeskModel_fund.2.1 68 = .ok (.aload_n 0, 1) := by decide +kernel
theorem d_TrustDeskModel_fund_69 : decode kY_TrustDeskModel_fund.2.1 69 = .ok (.getfield 415, 3) := by decide +kernel
theorem d_TrustDeskModel_fund_72 : decode kY_TrustDeskModel_fund.2.1 72 = .ok (.iadd, 1) := by decide +kernel
theorem d_TrustDeskModel_fund_73 : decode kY_TrustDeskModel_fund.2.1 73 = .ok (.istore_n 3, 1) := by decide +kernel
theorem d_TrustDeskModel_fund_74 : decode kY_TrustDeskModel_fund.2.1 74 = .ok (.aload_n 0, 1) := by decide +kernel
theorem d_TrustDeskModel_fund_75 : decode kY_TrustDeskModel_fund.2.1 75 = .ok (.iload_n 3, 1) := by decide +kernel
theorem d_TrustDeskModel_fund_76 : decode kY_TrustDeskModel_fund.2.1 76 = .ok (.invokevirtual 388, 3) := by decide +kernel
theorem d_TrustDeskModel_fund_79 : decode kY_TrustDeskModel_fund.2.1 79 = .ok (.istore 4, 2) := by decide +kernel
theorem d_TrustDeskModel_fund_81 : decode kY_TrustDeskModel_fund.2.1 81 = .ok (.iload 4, 2) := by decide +kernel
theorem d_TrustDeskModel_fund_83 : decode kY_TrustDeskModel_fund.2.1 83 = .ok (.ifCond .ge 6, 3) := by decide +kernel
theorem d_TrustDeskModel_fund_89 : decode kY_TrustDeskModel_fund.2.1 89 = .ok (.aload_n 0, 1) := by decide +kernel
theorem d_TrustDeskModel_fund_90 : decode kY_TrustDeskModel_fund.2.1 90 = .ok (.getfield 415, 3) := by decide +kernel
theorem d_TrustDeskModel_fund_93 : decode kY_TrustDeskModel_fund.2.1 93 = .ok (.istore 5, 2) := by decide +kernel
theorem d_TrustDeskModel_fund_95 : decode kY_TrustDeskModel_fund.2.1 95 = .ok (.aload_n 0, 1) := by decide +kernel
theorem d_TrustDeskModel_fund_96 : decode kY_TrustDeskModel_fund.2.1 96 = .ok (.getfield 66, 3) := by decide +kernel
theorem f_TrustDeskModel_66_13 : mj_fl "TrustDeskModel" 66 13 33 := ⟨kR_TrustDeskModel, kF_TrustDeskModel, 72, "TrustDeskModel", rfl, kg_13, by decide, (mj_in1 (List.mem_of_getElem? (i := 1419) (by decide +kernel)) rfl), Or.inl rfl⟩
theorem d_TrustDeskModel_fund_99 : decode kY_TrustDeskModel_fund.2.1 99 = .ok (.iload 5, 2) := by decide +kernel
theorem d_TrustDeskModel_fund_101 : decode kY_TrustDeskModel_fund.2.1 101 = .ok (.iload_n 1, 1) := by decide +kernel
theorem d_TrustDeskModel_fund_102 : decode kY_TrustDeskModel_fund.2.1 102 = .ok (.iastore, 1) := by decide +kernel
theorem d_TrustDeskModel_fund_103 : decode kY_TrustDeskModel_fund.2.1 103 = .ok (.aload_n 0, 1) := by decide +kernel
theorem d_TrustDeskModel_fund_104 : decode kY_TrustDeskModel_fund.2.1 104 = .ok (.getfield 69, 3) := by decide +kernel
theorem f_TrustDeskModel_69_13 : mj_fl "TrustDeskModel" 69 13 34 := ⟨kR_TrustDeskModel, kF_TrustDeskModel, 72, "TrustDeskModel", rfl, kg_13, by decide, (mj_in1 (List.mem_of_getElem? (i := 1420) (by decide +kernel)) rfl), Or.inl rfl⟩
theorem d_TrustDeskModel_fund_107 : decode kY_TrustDeskModel_fund.2.1 107 = .ok (.iload 5, 2) := by decide +kernel
theorem d_TrustDeskModel_fund_109 : decode kY_TrustDeskModel_fund.2.1 109 = .ok (.iload_n 2, 1) := by decide +kernel
theorem d_TrustDeskModel_fund_110 : decode kY_TrustDeskModel_fund.2.1 110 = .ok (.iastore, 1) := by decide +kernel
theorem d_TrustDeskModel_fund_111 : decode kY_TrustDeskModel_fund.2.1 111 = .ok (.aload_n 0, 1) := by decide +kernel
theorem d_TrustDeskModel_fund_112 : decode kY_TrustDeskModel_fund.2.1 112 = .ok (.getfield 72, 3) := by decide +kernel
theorem f_TrustDeskModel_72_13 : mj_fl "TrustDeskModel" 72 13 35 := ⟨kR_TrustDeskModel, kF_TrustDeskModel, 72, "TrustDeskModel", rfl, kg_13, by decide, (mj_in1 (List.mem_of_getElem? (i := 1421) (by decide +kernel)) rfl), Or.inl rfl⟩
theorem d_TrustDeskModel_fund_115 : decode kY_TrustDeskModel_fund.2.1 115 = .ok (.iload 5, 2) := by decide +kernel
theorem d_TrustDeskModel_fund_117 : decode kY_TrustDeskModel_fund.2.1 117 = .ok (.lconst 0, 1) := by decide +kernel
theorem d_TrustDeskModel_fund_118 : decode kY_TrustDeskModel_fund.2.1 118 = .ok (.lastore, 1) := by decide +kernel
theorem d_TrustDeskModel_fund_119 : decode kY_TrustDeskModel_fund.2.1 119 = .ok (.aload_n 0, 1) := by decide +kernel
theorem d_TrustDeskModel_fund_120 : decode kY_TrustDeskModel_fund.2.1 120 = .ok (.getfield 76, 3) := by decide +kernel
theorem f_TrustDeskModel_76_13 : mj_fl "TrustDeskModel" 76 13 36 := ⟨kR_TrustDeskModel, kF_TrustDeskModel, 72, "TrustDeskModel", rfl, kg_13, by decide, (mj_in1 (List.mem_of_getElem? (i := 1422) (by decide +kernel)) rfl), Or.inl rfl⟩
theorem d_TrustDeskModel_fund_123 : decode kY_TrustDeskModel_fund.2.1 123 = .ok (.iload 5, 2) := by decide +kernel
theorem d_TrustDeskModel_fund_125 : decode kY_TrustDeskModel_fund.2.1 125 = .ok (.iconst 0, 1) := by decide +kernel
theorem d_TrustDeskModel_fund_126 : decode kY_TrustDeskModel_fund.2.1 126 = .ok (.iastore, 1) := by decide +kernel
theorem d_TrustDeskModel_fund_127 : decode kY_TrustDeskModel_fund.2.1 127 = .ok (.aload_n 0, 1) := by decide +kernel
theorem d_TrustDeskModel_fund_128 : decode kY_TrustDeskModel_fund.2.1 128 = .ok (.getfield 79, 3) := by decide +kernel
theorem f_TrustDeskModel_79_13 : mj_fl "TrustDeskModel" 79 13 37 := ⟨kR_TrustDeskModel, kF_TrustDeskModel, 72, "TrustDeskModel", rfl, kg_13, by decide, (mj_in1 (List.mem_of_getElem? (i := 1423) (by decide +kernel)) rfl), Or.inl rfl⟩
theorem d_TrustDeskModel_fund_131 : decode kY_TrustDeskModel_fund.2.1 131 = .ok (.iload 5, 2) := by decide +kernel
theorem d_TrustDeskModel_fund_133 : decode kY_TrustDeskModel_fund.2.1 133 = .ok (.iconst (-1), 1) := by decide +kernel
theorem d_TrustDeskModel_fund_134 : decode kY_TrustDeskModel_fund.2.1 134 = .ok (.iastore, 1) := by decide +kernel
theorem d_TrustDeskModel_fund_135 : decode kY_TrustDeskModel_fund.2.1 135 = .ok (.aload_n 0, 1) := by decide +kernel
theorem d_TrustDeskModel_fund_136 : decode kY_TrustDeskModel_fund.2.1 136 = .ok (.getfield 82, 3) := by decide +kernel
theorem f_TrustDeskModel_82_13 : mj_fl "TrustDeskModel" 82 13 38 := ⟨kR_TrustDeskModel, kF_TrustDeskModel, 72, "TrustDeskModel", rfl, kg_13, by decide, (mj_in1 (List.mem_of_getElem? (i := 1424) (by decide +kernel)) rfl), Or.inl rfl⟩
theorem d_TrustDeskModel_fund_139 : decode kY_TrustDeskModel_fund.2.1 139 = .ok (.iload 5, 2) := by decide +kernel
theorem d_TrustDeskModel_fund_141 : decode kY_TrustDeskModel_fund.2.1 141 = .ok (.bipush 7, 2) := by decide +kernel
theorem d_TrustDeskModel_fund_143 : decode kY_TrustDeskModel_fund.2.1 143 = .ok (.iastore, 1) := by decide +kernel
theorem d_TrustDeskModel_fund_144 : decode kY_TrustDeskModel_fund.2.1 144 = .ok (.aload_n 0, 1) := by decide +kernel
theorem d_TrustDeskModel_fund_145 : decode kY_TrustDeskModel_fund.2.1 145 = .ok (.getfield 85, 3) := by decide +kernel
theorem f_TrustDeskModel_85_13 : mj_fl "TrustDeskModel" 85 13 39 := ⟨kR_TrustDeskModel, kF_TrustDeskModel, 72, "TrustDeskModel", rfl, kg_13, by decide, (mj_in1 (List.mem_of_getElem? (i := 1425) (by decide +kernel)) rfl), Or.inl rfl⟩
theorem d_TrustDeskModel_fund_148 : decode kY_TrustDeskModel_fund.2.1 148 = .ok (.iload 5, 2) := by decide +kernel
theorem d_TrustDeskModel_fund_150 : decode kY_TrustDeskModel_fund.2.1 150 = .ok (.iconst 1, 1) := by decide +kernel
theorem d_TrustDeskModel_fund_151 : decode kY_TrustDeskModel_fund.2.1 151 = .ok (.iastore, 1) := by decide +kernel
theorem d_TrustDeskModel_fund_152 : decode kY_TrustDeskModel_fund.2.1 152 = .ok (.iconst 0, 1) := by decide +kernel
theorem d_TrustDeskModel_fund_153 : decode kY_TrustDeskModel_fund.2.1 153 = .ok (.istore 6, 2) := by decide +kernel
theorem d_TrustDeskModel_fund_155 : decode kY_TrustDeskModel_fund.2.1 155 = .ok (.iload 6, 2) := by decide +kernel
theorem d_TrustDeskModel_fund_157 : decode kY_TrustDeskModel_fund.2.1 157 = .ok (.aload_n 0, 1) := by decide +kernel
theorem d_TrustDeskModel_fund_158 : decode kY_TrustDeskModel_fund.2.1 158 = .ok (.getfield 23, 3) := by decide +kernel
theorem d_TrustDeskModel_fund_161 : decode kY_TrustDeskModel_fund.2.1 161 = .ok (.iload_n 3, 1) := by decide +kernel
theorem d_TrustDeskModel_fund_162 : decode kY_TrustDeskModel_fund.2.1 162 = .ok (.iaload, 1) := by decide +kernel
theorem d_TrustDeskModel_fund_163 : decode kY_TrustDeskModel_fund.2.1 163 = .ok (.if_icmp .ge 111, 3) := by decide +kernel
theorem d_TrustDeskModel_fund_274 : decode kY_TrustDeskModel_fund.2.1 274 = .ok (.aload_n 0, 1) := by decide +kernel
theorem d_TrustDeskModel_fund_275 : decode kY_TrustDeskModel_fund.2.1 275 = .ok (.getfield 92, 3) := by decide +kernel
theorem f_TrustDeskModel_92_13 : mj_fl "TrustDeskModel" 92 13 41 := ⟨kR_TrustDeskModel, kF_TrustDeskModel, 72, "TrustDeskModel", rfl, kg_13, by decide, (mj_in1 (List.mem_of_getElem? (i := 1427) (by decide +kernel)) rfl), Or.inl rfl⟩
theorem d_TrustDeskModel_fund_278 : decode kY_TrustDeskModel_fund.2.1 278 = .ok (.bipush 12, 2) := by decide +kernel
theorem d_TrustDeskModel_fund_280 : decode kY_TrustDeskModel_fund.2.1 280 = .ok (.iload 5, 2) := by decide +kernel
theorem d_TrustDeskModel_fund_282 : decode kY_TrustDeskModel_fund.2.1 282 = .ok (.imul, 1) := by decide +kernel
theorem d_TrustDeskModel_fund_283 : decode kY_TrustDeskModel_fund.2.1 283 = .ok (.iload 5, 2) := by decide +kernel
theorem d_TrustDeskModel_fund_285 : decode kY_TrustDeskModel_fund.2.1 285 = .ok (.iadd, 1) := by decide +kernel
theorem d_TrustDeskModel_fund_286 : decode kY_TrustDeskModel_fund.2.1 286 = .ok (.ldc_w 432, 3) := by decide +kernel
theorem k_TrustDeskModel_432 : Cond.constant "TrustDeskModel" 432 1000000 ∈ mj_T := (mj_in1 (List.mem_of_getElem? (i := 1820) (by decide +kernel)) rfl)
theorem d_TrustDeskModel_fund_289 : decode kY_TrustDeskModel_fund.2.1 289 = .ok (.iastore, 1) := by decide +kernel
theorem d_TrustDeskModel_fund_290 : decode kY_TrustDeskModel_fund.2.1 290 = .ok (.aload_n 0, 1) := by decide +kernel
theorem d_TrustDeskModel_fund_291 : decode kY_TrustDeskModel_fund.2.1 291 = .ok (.dup, 1) := by decide +kernel
theorem d_TrustDeskModel_fund_292 : decode kY_TrustDeskModel_fund.2.1 292 = .ok (.getfield 415, 3) := by decide +kernel
theorem d_TrustDeskModel_fund_295 : decode kY_TrustDeskModel_fund.2.1 295 = .ok (.iconst 1, 1) := by decide +kernel
theorem d_TrustDeskModel_fund_296 : decode kY_TrustDeskModel_fund.2.1 296 = .ok (.iadd, 1) := by decide +kernel
theorem d_TrustDeskModel_fund_297 : decode kY_TrustDeskModel_fund.2.1 297 = .ok (.putfield 415, 3) := by decide +kernel
theorem p_TrustDeskModel_415_13 : mj_fp "TrustDeskModel" 415 13 32 (kt_TrustDeskModel 32) false := ⟨kR_TrustDeskModel, kF_TrustDeskModel, 72, "TrustDeskModel", kt_TrustDeskModel, rfl, kg_13, by decide, (mj_in1 (List.mem_of_getElem? (i := 1418) (by decide +kernel)) rfl), Or.inl rfl, kto_TrustDeskModel, kn_TrustDeskModel, rfl, rfl, fun h => by cases h⟩
theorem d_TrustDeskModel_fund_300 : decode kY_TrustDeskModel_fund.2.1 300 = .ok (.iload 5, 2) := by decide +kernel
theorem d_TrustDeskModel_fund_302 : decode kY_TrustDeskModel_fund.2.1 302 = .ok (.ireturn, 1) := by decide +kernel
theorem d_TrustDeskModel_fund_166 : decode kY_TrustDeskModel_fund.2.1 166 = .ok (.bipush 20, 2) := by decide +kernel
theorem d_TrustDeskModel_fund_168 : decode kY_TrustDeskModel_fund.2.1 168 = .ok (.iload_n 3, 1) := by decide +kernel
theorem d_TrustDeskModel_fund_169 : decode kY_TrustDeskModel_fund.2.1 169 = .ok (.imul, 1) := by decide +kernel
theorem d_TrustDeskModel_fund_170 : decode kY_TrustDeskModel_fund.2.1 170 = .ok (.iload 6, 2) := by decide +kernel
theorem d_TrustDeskModel_fund_172 : decode kY_TrustDeskModel_fund.2.1 172 = .ok (.iadd, 1) := by decide +kernel
theorem d_TrustDeskModel_fund_173 : decode kY_TrustDeskModel_fund.2.1 173 = .ok (.istore 7, 2) := by decide +kernel
theorem d_TrustDeskModel_fund_175 : decode kY_TrustDeskModel_fund.2.1 175 = .ok (.aload_n 0, 1) := by decide +kernel
theorem d_TrustDeskModel_fund_176 : decode kY_TrustDeskModel_fund.2.1 176 = .ok (.getfield 26, 3) := by decide +kernel
theorem d_TrustDeskModel_fund_179 : decode kY_TrustDeskModel_fund.2.1 179 = .ok (.iload 7, 2) := by decide +kernel
theorem d_TrustDeskModel_fund_181 : decode kY_TrustDeskModel_fund.2.1 181 = .ok (.iaload, 1) := by decide +kernel
theorem d_TrustDeskModel_fund_182 : decode kY_TrustDeskModel_fund.2.1 182 = .ok (.bipush 7, 2) := by decide +kernel
theorem d_TrustDeskModel_fund_184 : decode kY_TrustDeskModel_fund.2.1 184 = .ok (.if_icmp .ne 20, 3) := by decide +kernel
theorem d_TrustDeskModel_fund_204 : decode kY_TrustDeskModel_fund.2.1 204 = .ok (.aload_n 0, 1) := by decide +kernel
theorem d_TrustDeskModel_fund_205 : decode kY_TrustDeskModel_fund.2.1 205 = .ok (.getfield 26, 3) := by decide +kernel
theorem d_TrustDeskModel_fund_208 : decode kY_TrustDeskModel_fund.2.1 208 = .ok (.iload 7, 2) := by decide +kernel
theorem d_TrustDeskModel_fund_210 : decode kY_TrustDeskModel_fund.2.1 210 = .ok (.iaload, 1) := by decide +kernel
theorem d_TrustDeskModel_fund_211 : decode kY_TrustDeskModel_fund.2.1 211 = .ok (.bipush 9, 2) := by decide +kernel
theorem d_TrustDeskModel_fund_213 : decode kY_TrustDeskModel_fund.2.1 213 = .ok (.if_icmp .ne 31, 3) := by decide +kernel
theorem d_TrustDeskModel_fund_244 : decode kY_TrustDeskModel_fund.2.1 244 = .ok (.aload_n 0, 1) := by decide +kernel
theorem d_TrustDeskModel_fund_245 : decode kY_TrustDeskModel_fund.2.1 245 = .ok (.getfield 26, 3) := by decide +kernel
theorem d_TrustDeskModel_fund_248 : decode kY_TrustDeskModel_fund.2.1 248 = .ok (.iload 7, 2) := by decide +kernel
theorem d_TrustDeskModel_fund_250 : decode kY_TrustDeskModel_fund.2.1 250 = .ok (.iaload, 1) := by decide +kernel
theorem d_TrustDeskModel_fund_251 : decode kY_TrustDeskModel_fund.2.1 251 = .ok (.bipush 8, 2) := by decide +kernel
theorem d_TrustDeskModel_fund_253 : decode kY_TrustDeskModel_fund.2.1 253 = .ok (.if_icmp .ne 15, 3) := by decide +kernel
theorem d_TrustDeskModel_fund_268 : decode kY_TrustDeskModel_fund.2.1 268 = .ok (.iinc 6 1, 3) := by decide +kernel
theorem d_TrustDeskModel_fund_271 : decode kY_TrustDeskModel_fund.2.1 271 = .ok (.goto (-116), 3) := by decide +kernel
theorem d_TrustDeskModel_fund_256 : decode kY_TrustDeskModel_fund.2.1 256 = .ok (.aload_n 0, 1) := by decide +kernel
theorem d_TrustDeskModel_fund_257 : decode kY_TrustDeskModel_fund.2.1 257 = .ok (.iload 5, 2) := by decide +kernel
theorem d_TrustDeskModel_fund_259 : decode kY_TrustDeskModel_fund.2.1 259 = .ok (.iload_n 3, 1) := by decide +kernel
theorem d_TrustDeskModel_fund_260 : decode kY_TrustDeskModel_fund.2.1 260 = .ok (.iload 7, 2) := by decide +kernel
theorem d_TrustDeskModel_fund_262 : decode kY_TrustDeskModel_fund.2.1 262 = .ok (.iconst 0, 1) := by decide +kernel
theorem d_TrustDeskModel_fund_263 : decode kY_TrustDeskModel_fund.2.1 263 = .ok (.iconst 0, 1) := by decide +kernel
theorem d_TrustDeskModel_fund_264 : decode kY_TrustDeskModel_fund.2.1 264 = .ok (.iconst (-1), 1) := by decide +kernel
theorem d_TrustDeskModel_fund_265 : decode kY_TrustDeskModel_fund.2.1 265 = .ok (.invokevirtual 428, 3) := by decide +kernel
theorem lV_TrustDeskModel_428 : mj_lV "TrustDeskModel" 428 kY_TrustDeskModel_addEnd 6 := ⟨⟨(mj_in1 (List.mem_of_getElem? (i := 1816) (by decide +kernel)) rfl), (mj_in1 (List.mem_of_getElem? (i := 10) (by decide +kernel)) rfl), (mj_in1 (List.mem_of_getElem? (i := 1819) (by decide +kernel)) rfl), by decide, rfl, by decide⟩, (mj_in1 (List.mem_of_getElem? (i := 1818) (by decide +kernel)) rfl), (mj_in (List.mem_append_left _ (List.mem_of_getElem? (i := 110) (by decide +kernel))) rfl)⟩
theorem d_TrustDeskModel_fund_216 : decode kY_TrustDeskModel_fund.2.1 216 = .ok (.aload_n 0, 1) := by decide +kernel
theorem d_TrustDeskModel_fund_217 : decode kY_TrustDeskModel_fund.2.1 217 = .ok (.getfield 82, 3) := by decide +kernel
theorem d_TrustDeskModel_fund_220 : decode kY_TrustDeskModel_fund.2.1 220 = .ok (.iload 5, 2) := by decide +kernel
theorem d_TrustDeskModel_fund_222 : decode kY_TrustDeskModel_fund.2.1 222 = .ok (.aload_n 0, 1) := by decide +kernel
theorem d_TrustDeskModel_fund_223 : decode kY_TrustDeskModel_fund.2.1 223 = .ok (.getfield 29, 3) := by decide +kernel
theorem d_TrustDeskModel_fund_226 : decode kY_TrustDeskModel_fund.2.1 226 = .ok (.iload 7, 2) := by decide +kernel
theorem d_TrustDeskModel_fund_228 : decode kY_TrustDeskModel_fund.2.1 228 = .ok (.iaload, 1) := by decide +kernel
theorem d_TrustDeskModel_fund_229 : decode kY_TrustDeskModel_fund.2.1 229 = .ok (.iastore, 1) := by decide +kernel
theorem d_TrustDeskModel_fund_230 : decode kY_TrustDeskModel_fund.2.1 230 = .ok (.aload_n 0, 1) := by decide +kernel
theorem d_TrustDeskModel_fund_231 : decode kY_TrustDeskModel_fund.2.1 231 = .ok (.getfield 85, 3) := by decide +kernel
theorem d_TrustDeskModel_fund_234 : decode kY_TrustDeskModel_fund.2.1 234 = .ok (.iload 5, 2) := by decide +kernel
theorem d_TrustDeskModel_fund_236 : decode kY_TrustDeskModel_fund.2.1 236 = .ok (.aload_n 0, 1) := by decide +kernel
theorem d_TrustDeskModel_fund_237 : decode kY_TrustDeskModel_fund.2.1 237 = .ok (.getfield 32, 3) := by decide +kernel
theorem d_TrustDeskModel_fund_240 : decode kY_TrustDeskModel_fund.2.1 240 = .ok (.iload 7, 2) := by decide +kernel
theorem d_TrustDeskModel_fund_242 : decode kY_TrustDeskModel_fund.2.1 242 = .ok (.iaload, 1) := by decide +kernel
theorem d_TrustDeskModel_fund_243 : decode kY_TrustDeskModel_fund.2.1 243 = .ok (.iastore, 1) := by decide +kernel
theorem d_TrustDeskModel_fund_187 : decode kY_TrustDeskModel_fund.2.1 187 = .ok (.aload_n 0, 1) := by decide +kernel
theorem d_TrustDeskModel_fund_188 : decode kY_TrustDeskModel_fund.2.1 188 = .ok (.getfield 76, 3) := by decide +kernel
theorem d_TrustDeskModel_fund_191 : decode kY_TrustDeskModel_fund.2.1 191 = .ok (.iload 5, 2) := by decide +kernel
theorem d_TrustDeskModel_fund_193 : decode kY_TrustDeskModel_fund.2.1 193 = .ok (.dup2, 1) := by decide +kernel
theorem d_TrustDeskModel_fund_194 : decode kY_TrustDeskModel_fund.2.1 194 = .ok (.iaload, 1) := by decide +kernel
theorem d_TrustDeskModel_fund_195 : decode kY_TrustDeskModel_fund.2.1 195 = .ok (.aload_n 0, 1) := by decide +kernel
theorem d_TrustDeskModel_fund_196 : decode kY_TrustDeskModel_fund.2.1 196 = .ok (.getfield 29, 3) := by decide +kernel
theorem d_TrustDeskModel_fund_199 : decode kY_TrustDeskModel_fund.2.1 199 = .ok (.iload 7, 2) := by decide +kernel
theorem d_TrustDeskModel_fund_201 : decode kY_TrustDeskModel_fund.2.1 201 = .ok (.iaload, 1) := by decide +kernel
theorem d_TrustDeskModel_fund_202 : decode kY_TrustDeskModel_fund.2.1 202 = .ok (.ior, 1) := by decide +kernel
theorem d_TrustDeskModel_fund_203 : decode kY_TrustDeskModel_fund.2.1 203 = .ok (.iastore, 1) := by decide +kernel
theorem d_TrustDeskModel_fund_86 : decode kY_TrustDeskModel_fund.2.1 86 = .ok (.iload 4, 2) := by decide +kernel
theorem d_TrustDeskModel_fund_88 : decode kY_TrustDeskModel_fund.2.1 88 = .ok (.ireturn, 1) := by decide +kernel
theorem d_TrustDeskModel_fund_52 : decode kY_TrustDeskModel_fund.2.1 52 = .ok (.aload_n 0, 1) := by decide +kernel
theorem d_TrustDeskModel_fund_53 : decode kY_TrustDeskModel_fund.2.1 53 = .ok (.getfield 198, 3) := by decide +kernel
theorem d_TrustDeskModel_fund_56 : decode kY_TrustDeskModel_fund.2.1 56 = .ok (.ifCond .eq 10, 3) := by decide +kernel
theorem d_TrustDeskModel_fund_59 : decode kY_TrustDeskModel_fund.2.1 59 = .ok (.aload_n 0, 1) := by decide +kernel
theorem d_TrustDeskModel_fund_60 : decode kY_TrustDeskModel_fund.2.1 60 = .ok (.invokevirtual 425, 3) := by decide +kernel
theorem d_TrustDeskModel_fund_63 : decode kY_TrustDeskModel_fund.2.1 63 = .ok (.goto (-18), 3) := by decide +kernel
def w_TrustDeskModel_fund_x : List Nat := [1300, 1314, 1315, 1316, 1317, 1318, 1319, 1320, 1321, 1322, 1323, 1324, 1332, 20004, 20005, 20006, 20007, 20008, 20009, 20010, 20011, 20012, 20025, 20026, 20033, 20034, 20035, 20036, 20037, 20038, 20039, 20041, 20043, 20044, 20045, 20046, 20047, 20048]
set_option maxHeartbeats 100000000 in theorem tc_TrustDeskModel_fund_x {g : mj_G} {l : Launch} {d : Nat} {T0 : tm_H} {M0 : mj_M} {n0 x9 : Nat} {o0 : Nat} {x1 : Int32} {x2 : Int32} (h_o0 : T0 o0 = some (0, 13, 0)) (yR : rI M0 o0) (yC : rC M0 o0 44) (yP : rP M0 o0) (yB : rB M0 o0 12) (I0 : tm_I tm_FT (tm_in w_TrustDeskModel_fund_x) x9 T0 M0 n0 T0 M0 n0) : mj_Met g l kY_TrustDeskModel_fund (d + 27) [.ref o0, .int x1, .int x2] M0 n0 0 0 (tm_Q tm_FT (tm_in w_TrustDeskModel_fund_x) x9 T0 M0 n0 (fun r _ M => ∃ v : Int32, r = some (.int v) ∧ rI M o0 ∧ (rC M o0 44) ∧ (rP M o0) ∧ (rB M o0 12) ∧ (rv M0 o0 32 ≤ rv M o0 32))) := by
  refine mj_enter (by decide) (Nat.le_of_ble_eq_true rfl) ?_
  have K1 : rC M0 o0 44 := yC
  have K2 : rP M0 o0 := yP
  have K3 : rB M0 o0 12 := yB
  refine mv_aload_n d_TrustDeskModel_fund_0 rfl rfl ?_
  refine mv_iconst (v := 0) d_TrustDeskModel_fund_1 (by decide) ?_
  refine tr_putR (k := 0) I0 yR h_o0 rfl ⟨_, rfl⟩ (fun _ h => by cases h) rfl (fun lo hi h => by cases h) (Or.inl (by decide)) d_TrustDeskModel_fund_2 p_TrustDeskModel_1_13 rfl rfl (fun M4 I5 q6 K7 R8 A9 V10 => ?_)
  have z11 := (V10 15 (by decide))
  have z12 := (V10 16 (by decide))
  have z13 := (V10 17 (by decide))
  have z14 := (V10 19 (by decide))
  have z15 := (V10 22 (by decide))
  have z16 := (V10 24 (by decide))
  have z17 := (V10 27 (by decide))
  have z18 := (V10 32 (by decide))
  have z19 := (V10 49 (by decide))
  have z20 := (A9 5 (by decide) 44)
  have z21 := (A9 6 (by decide) 44)
  have K22 : rC M4 o0 44 := K1.same (sA_f A9 (by decide)) (sF_f V10 (by decide))
  have K23 : rP M4 o0 := K2.same (sA_f A9 (by decide)) (sF_f V10 (by decide))
  have K24 : rB M4 o0 12 := K3.same (sA_f A9 (by decide)) (sF_f V10 (by decide))
  refine mv_iload_n d_TrustDeskModel_fund_5 rfl rfl ?_
  refine mv_i2l (v := x1.toInt64) d_TrustDeskModel_fund_6 rfl ?_
  refine mv_lconst (v := 0) d_TrustDeskModel_fund_7 (by decide) ?_
  refine mv_ldc2 d_TrustDeskModel_fund_8 k_TrustDeskModel_421 ?_
  refine mv_callS (kc1 := 0) (ks1 := 0) (kc' := 0) (ks' := 0) (As := [.long x1.toInt64, .long 0, .long 999]) (st9 := [.long 999, .long 0, .long x1.toInt64]) d_TrustDeskModel_fund_11 lS_TrustDeskModel_169 (mj_enter (by decide) (Nat.le_of_ble_eq_true rfl) ?_) rfl (Nat.le_of_ble_eq_true rfl) (Nat.le_of_ble_eq_true rfl) (Nat.le_of_ble_eq_true rfl) (hst := rfl) (fun _ _ _ h => h)
  refine mv_lload_n d_TrustDeskModel_within_0 rfl rfl ?_
  refine mv_lload_n d_TrustDeskModel_within_1 rfl rfl ?_
  refine mv_lltZ (tgt := 17) (a := x1.toInt) (b := 0) d_TrustDeskModel_within_2 d_TrustDeskModel_within_3 (by decide) (mz_wide _) (by decide) (fun b25 => ?_) (fun b25 => ?_)
  · refine mv_iconst (v := 0) d_TrustDeskModel_within_17 (by decide) ?_
    refine mv_iret d_TrustDeskModel_within_18 rfl (by decide) ?_
    refine mv_if_eq_t (tgt := 38) d_TrustDeskModel_fund_14 (by decide) (by decide) ?_
    refine mv_iconst (v := (-1)) d_TrustDeskModel_fund_38 (by decide) ?_
    exact mv_iret d_TrustDeskModel_fund_39 rfl (by first | rfl | decide) ⟨_, I5, _, rfl, R8, K22, K23, K24, (by have := R8.1 15 _ _ rfl; have := R8.1 16 _ _ rfl; have := R8.1 19 _ _ rfl; omega)⟩
  · refine mv_lload_n d_TrustDeskModel_within_6 rfl rfl ?_
    refine mv_lload d_TrustDeskModel_within_7 rfl ?_
    refine mv_lgtZ (tgt := 17) (a := x1.toInt) (b := 999) d_TrustDeskModel_within_9 d_TrustDeskModel_within_10 (by decide) (mz_wide _) (by decide) (fun b26 => ?_) (fun b26 => ?_)
    · refine mv_iconst (v := 0) d_TrustDeskModel_within_17 (by decide) ?_
      refine mv_iret d_TrustDeskModel_within_18 rfl (by decide) ?_
      refine mv_if_eq_t (tgt := 38) d_TrustDeskModel_fund_14 (by decide) (by decide) ?_
      refine mv_iconst (v := (-1)) d_TrustDeskModel_fund_38 (by decide) ?_
      exact mv_iret d_TrustDeskModel_fund_39 rfl (by first | rfl | decide) ⟨_, I5, _, rfl, R8, K22, K23, K24, (by have := R8.1 15 _ _ rfl; have := R8.1 16 _ _ rfl; have := R8.1 19 _ _ rfl; omega)⟩
    · refine mv_iconst (v := 1) d_TrustDeskModel_within_13 (by decide) ?_
      refine mv_goto (tgt := 18) d_TrustDeskModel_within_14 (by decide) ?_
      refine mv_iret d_TrustDeskModel_within_18 rfl (by decide) ?_
      refine mv_if_eq_f (tgt := 38) d_TrustDeskModel_fund_14 (by decide) (by decide) ?_
      refine mv_iload_n d_TrustDeskModel_fund_17 rfl rfl ?_
      refine mv_i2l (v := x2.toInt64) d_TrustDeskModel_fund_18 rfl ?_
      refine mv_lconst (v := 0) d_TrustDeskModel_fund_19 (by decide) ?_
      refine mv_ldc2 d_TrustDeskModel_fund_20 k_TrustDeskModel_423 ?_
      refine mv_callS (kc1 := 0) (ks1 := 0) (kc' := 0) (ks' := 0) (As := [.long x2.toInt64, .long 0, .long 99999]) (st9 := [.long 99999, .long 0, .long x2.toInt64]) d_TrustDeskModel_fund_23 lS_TrustDeskModel_169 (mj_enter (by decide) (Nat.le_of_ble_eq_true rfl) ?_) rfl (Nat.le_of_ble_eq_true rfl) (Nat.le_of_ble_eq_true rfl) (Nat.le_of_ble_eq_true rfl) (hst := rfl) (fun _ _ _ h => h)
      refine mv_lload_n d_TrustDeskModel_within_0 rfl rfl ?_
      refine mv_lload_n d_TrustDeskModel_within_1 rfl rfl ?_
      refine mv_lltZ (tgt := 17) (a := x2.toInt) (b := 0) d_TrustDeskModel_within_2 d_TrustDeskModel_within_3 (by decide) (mz_wide _) (by decide) (fun b27 => ?_) (fun b27 => ?_)
      · refine mv_iconst (v := 0) d_TrustDeskModel_within_17 (by decide) ?_
        refine mv_iret d_TrustDeskModel_within_18 rfl (by decide) ?_
        refine mv_if_eq_t (tgt := 38) d_TrustDeskModel_fund_26 (by decide) (by decide) ?_
        refine mv_iconst (v := (-1)) d_TrustDeskModel_fund_38 (by decide) ?_
        exact mv_iret d_TrustDeskModel_fund_39 rfl (by first | rfl | decide) ⟨_, I5, _, rfl, R8, K22, K23, K24, (by have := R8.1 15 _ _ rfl; have := R8.1 16 _ _ rfl; have := R8.1 19 _ _ rfl; omega)⟩
      · refine mv_lload_n d_TrustDeskModel_within_6 rfl rfl ?_
        refine mv_lload d_TrustDeskModel_within_7 rfl ?_
        refine mv_lgtZ (tgt := 17) (a := x2.toInt) (b := 99999) d_TrustDeskModel_within_9 d_TrustDeskModel_within_10 (by decide) (mz_wide _) (by decide) (fun b28 => ?_) (fun b28 => ?_)
        · refine mv_iconst (v := 0) d_TrustDeskModel_within_17 (by decide) ?_
          refine mv_iret d_TrustDeskModel_within_18 rfl (by decide) ?_
          refine mv_if_eq_t (tgt := 38) d_TrustDeskModel_fund_26 (by decide) (by decide) ?_
          refine mv_iconst (v := (-1)) d_TrustDeskModel_fund_38 (by decide) ?_
          exact mv_iret d_TrustDeskModel_fund_39 rfl (by first | rfl | decide) ⟨_, I5, _, rfl, R8, K22, K23, K24, (by have := R8.1 15 _ _ rfl; have := R8.1 16 _ _ rfl; have := R8.1 19 _ _ rfl; omega)⟩
        · refine mv_iconst (v := 1) d_TrustDeskModel_within_13 (by decide) ?_
          refine mv_goto (tgt := 18) d_TrustDeskModel_within_14 (by decide) ?_
          refine mv_iret d_TrustDeskModel_within_18 rfl (by decide) ?_
          refine mv_if_eq_f (tgt := 38) d_TrustDeskModel_fund_26 (by decide) (by decide) ?_
          refine mv_aload_n d_TrustDeskModel_fund_29 rfl rfl ?_
          obtain ⟨v30, q29⟩ := tm_atI I5 h_o0 (k := 32) rfl
          refine tr_getK q29 d_TrustDeskModel_fund_30 f_TrustDeskModel_415_13 ?_
          have := R8.f (k := 32) q29 rfl
          refine mv_bipush (v := 12) d_TrustDeskModel_fund_33 (by decide) ?_
          have := mz_hi v30
          refine mv_icmp_neZ (tgt := 40) (a := v30.toInt) (b := 12) d_TrustDeskModel_fund_35 (by decide) rfl (by decide) (fun b31 => ?_) (fun b31 => ?_)
          · refine mv_aload_n d_TrustDeskModel_fund_40 rfl rfl ?_
            refine mv_iconst (v := 0) d_TrustDeskModel_fund_41 (by decide) ?_
            obtain ⟨_, b38, -⟩ := I5.1 _ _ h_o0
            have : (0 : Int32).toInt = 0 := by decide
            refine mv_callV (kc' := 0) (ks' := 0) (As := [.int 0]) (st9 := [.int 0, .ref o0]) d_TrustDeskModel_fund_42 lV_TrustDeskModel_381 b38 rfl (tc_TrustDeskModel_starts_x (d := (d + 24)) (x9 := x9) (o0 := o0) (x1 := 0) h_o0 (by decide) R8 I5.start) rfl (Nat.le_of_ble_eq_true rfl) (Nat.le_of_ble_eq_true rfl) (Nat.le_of_ble_eq_true rfl) (hst := rfl) (fun b32r M33 n34 b32 => ?_)
            obtain ⟨T35, J36, rfl, R39, f40, f41, f42, f43, f44, f45⟩ := b32
            have I37 := I5.call J36 (tm_sub (by decide)) (Or.inl rfl)
            have t46 := J36.up h_o0
            have z47 := (rv_c I5 J36 (I5.up h_o0) (k := 27) rfl).trans z17
            have z48 := (rv_c I5 J36 (I5.up h_o0) (k := 32) rfl).trans z18
            have z49 := (rv_c I5 J36 (I5.up h_o0) (k := 49) rfl).trans z19
            have K50 : rC M33 o0 44 := K22.same (sA_c I5 J36 (I5.up h_o0) (by decide)) (sF_c I5 J36 (I5.up h_o0) (by decide))
            have K51 : rP M33 o0 := K23.same (sA_c I5 J36 (I5.up h_o0) (by decide)) (sF_c I5 J36 (I5.up h_o0) (by decide))
            have K52 : rB M33 o0 12 := K24.same (sA_c I5 J36 (I5.up h_o0) (by decide)) (sF_c I5 J36 (I5.up h_o0) (by decide))
            have K53 : rW M33 o0 := rW.start f40 R39 f44 f45 f43
            clear z17 z18 z19
            have q54 := J36.keep h_o0 (by decide) q6
            have q55 := J36.keep h_o0 (by decide) q29
            have L45_56 : ∀ (k : Nat) (T_56 : tm_H) (M_56 : mj_M) (n_56 : Nat), tm_I tm_FT (tm_in w_TrustDeskModel_fund_x) x9 T0 M0 n0 T_56 M_56 n_56 → T_56 o0 = some (0, 13, 0) → (rv M_56 o0 19 = 0 → rv M_56 o0 22 = 0) → rv M_56 o0 27 = rv M0 o0 27 → rv M_56 o0 32 = rv M0 o0 32 → rv M_56 o0 49 = rv M0 o0 49 → ra M_56 o0 6 44 ≤ 12 → (rI M_56 o0) → (rC M_56 o0 44) → (rP M_56 o0) → (rB M_56 o0 12) → (rW M_56 o0) → 5 * (401 - rv M_56 o0 16) - rv M_56 o0 19 < (k : Int) → mj_V g l kY_TrustDeskModel_fund (d + 27) 45 [(0, .ref o0), (1, .int x1), (2, .int x2)] [] M_56 n_56 0 0 (tm_Q tm_FT (tm_in w_TrustDeskModel_fund_x) x9 T0 M0 n0 (fun r _ M => ∃ v : Int32, r = some (.int v) ∧ rI M o0 ∧ (rC M o0 44) ∧ (rP M o0) ∧ (rB M o0 12) ∧ (rv M0 o0 32 ≤ rv M o0 32))) := by
              intro k56
              induction k56 with
              | zero =>
                intro T_56 M_56 n_56 I_56 h_q0_56 iv0_56 iv1_56 iv2_56 iv3_56 iv4_56 kKR_56 kKC_56 kKP_56 kKB_56 kKW_56 hk56
                have := kKR_56.1 15 _ _ rfl
                have := kKR_56.1 16 _ _ rfl
                have := kKR_56.1 19 _ _ rfl
                exfalso; omega
              | succ k56 ih56 =>
                intro T_56 M_56 n_56 I_56 h_q0_56 iv0_56 iv1_56 iv2_56 iv3_56 iv4_56 kKR_56 kKC_56 kKP_56 kKB_56 kKW_56 hk56
                refine mv_aload_n d_TrustDeskModel_fund_45 rfl rfl ?_
                obtain ⟨_, b57, -⟩ := I_56.1 _ _ h_q0_56
                refine mv_callV (kc1 := 0) (ks1 := 0) (kc' := 0) (ks' := 0) (As := []) (st9 := [.ref o0]) d_TrustDeskModel_fund_46 lV_TrustDeskModel_230 b57 rfl (mj_enter (by decide) (Nat.le_of_ble_eq_true rfl) ?_) rfl (Nat.le_of_ble_eq_true rfl) (Nat.le_of_ble_eq_true rfl) (Nat.le_of_ble_eq_true rfl) (hst := rfl) (fun _ _ _ h => h)
                refine mv_aload_n d_TrustDeskModel_isWell_0 rfl rfl ?_
                obtain ⟨v59, q58⟩ := tm_atI I_56 h_q0_56 (k := 19) rfl
                refine tr_getK q58 d_TrustDeskModel_isWell_1 f_TrustDeskModel_224_13 ?_
                have := kKR_56.f (k := 19) q58 rfl
                have := tm_rv q58
                have := mz_hi v59
                refine mv_if_neZ (tgt := 11) (a := v59.toInt) d_TrustDeskModel_isWell_4 (by decide) rfl (fun b60 => ?_) (fun b60 => ?_)
                · refine mv_iconst (v := 0) d_TrustDeskModel_isWell_11 (by decide) ?_
                  refine mv_iret d_TrustDeskModel_isWell_12 rfl (by decide) ?_
                  refine mv_if_eq_t (tgt := 66) d_TrustDeskModel_fund_49 (by decide) (by decide) ?_
                  refine mv_bipush (v := 20) d_TrustDeskModel_fund_66 (by decide) ?_
                  refine mv_aload_n d_TrustDeskModel_fund_68 rfl rfl ?_
                  obtain ⟨v62, q61⟩ := tm_atI I_56 h_q0_56 (k := 32) rfl
                  refine tr_getK q61 d_TrustDeskModel_fund_69 f_TrustDeskModel_415_13 ?_
                  have := kKR_56.f (k := 32) q61 rfl
                  refine mv_iadd d_TrustDeskModel_fund_72 ?_
                  refine mv_istore_n (lv' := [(3, .int (20 + v62)), (0, .ref o0), (1, .int x1), (2, .int x2)]) d_TrustDeskModel_fund_73 rfl (by decide) rfl ?_
                  refine mv_aload_n d_TrustDeskModel_fund_74 rfl rfl ?_
                  refine mv_iload_n d_TrustDeskModel_fund_75 rfl rfl ?_
                  obtain ⟨_, b69, -⟩ := I_56.1 _ _ h_q0_56
                  have b70 : (20 + v62 : Int32).toInt = (20 + v62.toInt) := mz_add2 (by decide) rfl (by have := kKR_56.1 15 _ _ rfl; have := kKR_56.1 16 _ _ rfl; have := kKR_56.1 19 _ _ rfl; omega) (by have := kKR_56.1 15 _ _ rfl; have := kKR_56.1 16 _ _ rfl; have := kKR_56.1 19 _ _ rfl; omega)
                  refine mv_callV (kc' := 0) (ks' := 0) (As := [.int (20 + v62)]) (st9 := [.int (20 + v62), .ref o0]) d_TrustDeskModel_fund_76 lV_TrustDeskModel_388 b69 rfl (tc_TrustDeskModel_stops_x (d := (d + 25)) (x9 := x9) (o0 := o0) (x1 := (20 + v62)) h_q0_56 kKR_56 (by have := kKR_56.1 15 _ _ rfl; have := kKR_56.1 16 _ _ rfl; have := kKR_56.1 19 _ _ rfl; omega) I_56.start) rfl (Nat.le_of_ble_eq_true rfl) (Nat.le_of_ble_eq_true rfl) (Nat.le_of_ble_eq_true rfl) (hst := rfl) (fun b63r M64 n65 b63 => ?_)
                  obtain ⟨T66, J67, v71, rfl, R72, f73, f74⟩ := b63
                  have I68 := I_56.call J67 (tm_sub (by decide)) (Or.inl rfl)
                  have t75 := J67.up h_q0_56
                  replace f73 := Im.i f73
                  replace f74 := Im.i f74
                  have z76 := (rv_c I_56 J67 (I_56.up h_o0) (k := 15) rfl)
                  have z77 := (rv_c I_56 J67 (I_56.up h_o0) (k := 16) rfl)
                  have z78 := (rv_c I_56 J67 (I_56.up h_o0) (k := 17) rfl)
                  have z79 := (rv_c I_56 J67 (I_56.up h_o0) (k := 19) rfl)
                  have z80 := (rv_c I_56 J67 (I_56.up h_o0) (k := 22) rfl)
                  have z81 := (rv_c I_56 J67 (I_56.up h_o0) (k := 24) rfl)
                  have z82 := (rv_c I_56 J67 (I_56.up h_o0) (k := 27) rfl)
                  have z83 := (rv_c I_56 J67 (I_56.up h_o0) (k := 32) rfl)
                  have z84 := (rv_c I_56 J67 (I_56.up h_o0) (k := 49) rfl)
                  have K85 : rP M64 o0 := kKP_56.same (sA_c I_56 J67 (I_56.up h_o0) (by decide)) (sF_c I_56 J67 (I_56.up h_o0) (by decide))
                  have K86 : rB M64 o0 12 := kKB_56.same (sA_c I_56 J67 (I_56.up h_o0) (by decide)) (sF_c I_56 J67 (I_56.up h_o0) (by decide))
                  have K87 : (v71.toInt < 0 → rC M64 o0 44) ∧ (0 ≤ v71.toInt → rC M64 o0 ((20 + v62).toNatClampNeg)) := rC.st kKC_56 kKR_56 kKW_56 (by have := mz_nat9 (i := (20 + v62)) (by have := kKR_56.1 15 _ _ rfl; have := kKR_56.1 16 _ _ rfl; have := kKR_56.1 19 _ _ rfl; omega); have := kKR_56.1 15 _ _ rfl; have := kKR_56.1 16 _ _ rfl; have := kKR_56.1 19 _ _ rfl; omega) (by unfold rU; have := mz_nat9 (i := (20 + v62)) (by have := kKR_56.1 15 _ _ rfl; have := kKR_56.1 16 _ _ rfl; have := kKR_56.1 19 _ _ rfl; omega); have := kKR_56.1 15 _ _ rfl; have := kKR_56.1 16 _ _ rfl; have := kKR_56.1 19 _ _ rfl; omega) f73 f74 (sA_c I_56 J67 (I_56.up h_o0) (by decide)) (sF_c I_56 J67 (I_56.up h_o0) (by decide))
                  have h88 := kc_of f73 f74 kKR_56 kKW_56
                  have := (kKR_56.2 6 _ _ rfl 44)
                  have K89 : sA [7] M64 M64 o0 := sA.rf
                  have : 0 ≤ v71.toInt → ra M64 o0 6 (20 + v62).toNatClampNeg = ra M_56 o0 6 44 := fun h9 => by
                    by_cases w9 : rv M_56 o0 19 = 0
                    · exact (f74.o w9).2.2.2.2.2.2.2
                    · have := (f73.o w9).1; omega
                  have q90 := J67.keep h_q0_56 (by decide) q58
                  have q91 := J67.keep h_q0_56 (by decide) q61
                  refine mv_istore (lv' := [(4, .int v71), (3, .int (20 + v62)), (0, .ref o0), (1, .int x1), (2, .int x2)]) d_TrustDeskModel_fund_79 (by decide) rfl ?_
                  refine mv_iload d_TrustDeskModel_fund_81 rfl ?_
                  have := mz_hi v71
                  refine mv_if_geZ (tgt := 89) (a := v71.toInt) d_TrustDeskModel_fund_83 (by decide) rfl (fun b92 => ?_) (fun b92 => ?_)
                  · have K93 : rC M64 o0 ((20 + v62).toNatClampNeg) := K87.2 (by omega)
                    refine mv_aload_n d_TrustDeskModel_fund_89 rfl rfl ?_
                    refine tr_getK (k := 32) q91 d_TrustDeskModel_fund_90 f_TrustDeskModel_415_13 ?_
                    refine mv_istore (lv' := [(5, .int v62), (4, .int v71), (3, .int (20 + v62)), (0, .ref o0), (1, .int x1), (2, .int x2)]) d_TrustDeskModel_fund_93 (by decide) rfl ?_
                    refine mv_aload_n d_TrustDeskModel_fund_95 rfl rfl ?_
                    obtain ⟨a95, q94, t_a95⟩ := tm_atR I68 t75 (k := 33) rfl
                    refine tr_getK q94 d_TrustDeskModel_fund_96 f_TrustDeskModel_66_13 ?_
                    refine mv_iload d_TrustDeskModel_fund_99 rfl ?_
                    refine mv_iload_n d_TrustDeskModel_fund_101 rfl rfl ?_
                    refine tr_iastR (k := 33) I68 R72 (I68.up h_o0) q94 t_a95 (by decide) (by decide) (fun lo hi h => by cases h; have := R72.1 15 _ _ rfl; have := R72.1 16 _ _ rfl; have := R72.1 19 _ _ rfl; exact ⟨by show (0 : Int) ≤ x1.toInt; omega, by show x1.toInt ≤ (999 : Int); omega⟩) (Or.inl (by decide)) d_TrustDeskModel_fund_102 (vp_in_iff.mpr (by have := R72.1 15 _ _ rfl; have := R72.1 16 _ _ rfl; have := R72.1 19 _ _ rfl; omega)) (fun M96 I97 K98 R99 E100 A101 V102 => ?_)
                    have z103 := (V102 15).trans z76
                    have z104 := (V102 16).trans z77
                    have z105 := (V102 17).trans z78
                    have z106 := (V102 19).trans z79
                    have z107 := (V102 22).trans z80
                    have z108 := (V102 24).trans z81
                    have z109 := (V102 27).trans z82
                    have z110 := (V102 32).trans z83
                    have z111 := (V102 49).trans z84
                    have z112 := (A101 5 (by decide) rfl 44)
                    have z113 := (A101 6 (by decide) rfl 44)
                    have z114 := (A101 6 (by decide) rfl ((20 + v62).toNatClampNeg))
                    have K115 : rP M96 o0 := K85.same (sA_a A101 (by decide)) (sF_a V102)
                    have K116 : rB M96 o0 12 := K86.same (sA_a A101 (by decide)) (sF_a V102)
                    have K117 : sA [7] M64 M96 o0 := K89.trans (sA_a A101 (by decide))
                    have K118 : rC M96 o0 ((20 + v62).toNatClampNeg) := K93.same (sA_a A101 (by decide)) (sF_a V102)
                    clear z76 z77 z78 z80 z81 z82 z83 z84
                    refine mv_aload_n d_TrustDeskModel_fund_103 rfl rfl ?_
                    obtain ⟨a120, q119, t_a120⟩ := tm_atR I97 t75 (k := 34) rfl
                    refine tr_getK q119 d_TrustDeskModel_fund_104 f_TrustDeskModel_69_13 ?_
                    refine mv_iload d_TrustDeskModel_fund_107 rfl ?_
                    refine mv_iload_n d_TrustDeskModel_fund_109 rfl rfl ?_
                    refine tr_iastR (k := 34) I97 R99 (I97.up h_o0) q119 t_a120 (by decide) (by decide) (fun lo hi h => by cases h; have := R99.1 15 _ _ rfl; have := R99.1 16 _ _ rfl; have := R99.1 19 _ _ rfl; exact ⟨by show (0 : Int) ≤ x2.toInt; omega, by show x2.toInt ≤ (99999 : Int); omega⟩) (Or.inl (by decide)) d_TrustDeskModel_fund_110 (vp_in_iff.mpr (by have := R99.1 15 _ _ rfl; have := R99.1 16 _ _ rfl; have := R99.1 19 _ _ rfl; omega)) (fun M121 I122 K123 R124 E125 A126 V127 => ?_)
                    have z128 := (V127 15).trans z103
                    have z129 := (V127 16).trans z104
                    have z130 := (V127 17).trans z105
                    have z131 := (V127 19).trans z106
                    have z132 := (V127 22).trans z107
                    have z133 := (V127 24).trans z108
                    have z134 := (V127 27).trans z109
                    have z135 := (V127 32).trans z110
                    have z136 := (V127 49).trans z111
                    have z137 := (A126 5 (by decide) rfl 44).trans z112
                    have z138 := (A126 6 (by decide) rfl 44).trans z113
                    have z139 := (A126 6 (by decide) rfl ((20 + v62).toNatClampNeg)).trans z114
                    have K140 : rP M121 o0 := K115.same (sA_a A126 (by decide)) (sF_a V127)
                    have K141 : rB M121 o0 12 := K116.same (sA_a A126 (by decide)) (sF_a V127)
                    have K142 : sA [7] M64 M121 o0 := K117.trans (sA_a A126 (by decide))
                    have K143 : rC M121 o0 ((20 + v62).toNatClampNeg) := K118.same (sA_a A126 (by decide)) (sF_a V127)
                    clear z103 z104 z105 z107 z108 z109 z110 z111 z112 z113 z114
                    refine mv_aload_n d_TrustDeskModel_fund_111 rfl rfl ?_
                    obtain ⟨a145, q144, t_a145⟩ := tm_atR I122 t75 (k := 35) rfl
                    refine tr_getK q144 d_TrustDeskModel_fund_112 f_TrustDeskModel_72_13 ?_
                    refine mv_iload d_TrustDeskModel_fund_115 rfl ?_
                    refine mv_lconst (v := 0) d_TrustDeskModel_fund_117 (by decide) ?_
                    refine tr_lastR (k := 35) I122 R124 (I122.up h_o0) q144 t_a145 (by decide) (by decide) (fun lo hi h => by cases h; exact (by decide)) (Or.inl (by decide)) d_TrustDeskModel_fund_118 (vp_in_iff.mpr (by have := R124.1 15 _ _ rfl; have := R124.1 16 _ _ rfl; have := R124.1 19 _ _ rfl; omega)) (fun M146 I147 K148 R149 E150 A151 V152 => ?_)
                    have z153 := (V152 15).trans z128
                    have z154 := (V152 16).trans z129
                    have z155 := (V152 17).trans z130
                    have z156 := (V152 19).trans z131
                    have z157 := (V152 22).trans z132
                    have z158 := (V152 24).trans z133
                    have z159 := (V152 27).trans z134
                    have z160 := (V152 32).trans z135
                    have z161 := (V152 49).trans z136
                    have z162 := (A151 5 (by decide) rfl 44).trans z137
                    have z163 := (A151 6 (by decide) rfl 44).trans z138
                    have z164 := (A151 6 (by decide) rfl ((20 + v62).toNatClampNeg)).trans z139
                    have K165 : rP M146 o0 := K140.same (sA_a A151 (by decide)) (sF_a V152)
                    have K166 : rB M146 o0 12 := K141.same (sA_a A151 (by decide)) (sF_a V152)
                    have K167 : sA [7] M64 M146 o0 := K142.trans (sA_a A151 (by decide))
                    have K168 : rC M146 o0 ((20 + v62).toNatClampNeg) := K143.same (sA_a A151 (by decide)) (sF_a V152)
                    clear z128 z129 z130 z132 z133 z134 z135 z136 z137 z138 z139
                    refine mv_aload_n d_TrustDeskModel_fund_119 rfl rfl ?_
                    obtain ⟨a170, q169, t_a170⟩ := tm_atR I147 t75 (k := 36) rfl
                    refine tr_getK q169 d_TrustDeskModel_fund_120 f_TrustDeskModel_76_13 ?_
                    refine mv_iload d_TrustDeskModel_fund_123 rfl ?_
                    refine mv_iconst (v := 0) d_TrustDeskModel_fund_125 (by decide) ?_
                    refine tr_iastR (k := 36) I147 R149 (I147.up h_o0) q169 t_a170 (by decide) (by decide) (fun lo hi h => by cases h) (Or.inl (by decide)) d_TrustDeskModel_fund_126 (vp_in_iff.mpr (by have := R149.1 15 _ _ rfl; have := R149.1 16 _ _ rfl; have := R149.1 19 _ _ rfl; omega)) (fun M171 I172 K173 R174 E175 A176 V177 => ?_)
                    have z178 := (V177 15).trans z153
                    have z179 := (V177 16).trans z154
                    have z180 := (V177 17).trans z155
                    have z181 := (V177 19).trans z156
                    have z182 := (V177 22).trans z157
                    have z183 := (V177 24).trans z158
                    have z184 := (V177 27).trans z159
                    have z185 := (V177 32).trans z160
                    have z186 := (V177 49).trans z161
                    have z187 := (A176 5 (by decide) rfl 44).trans z162
                    have z188 := (A176 6 (by decide) rfl 44).trans z163
                    have z189 := (A176 6 (by decide) rfl ((20 + v62).toNatClampNeg)).trans z164
                    have K190 : rP M171 o0 := K165.same (sA_a A176 (by decide)) (sF_a V177)
                    have K191 : rB M171 o0 12 := K166.same (sA_a A176 (by decide)) (sF_a V177)
                    have K192 : sA [7] M64 M171 o0 := K167.trans (sA_a A176 (by decide))
                    have K193 : rC M171 o0 ((20 + v62).toNatClampNeg) := K168.same (sA_a A176 (by decide)) (sF_a V177)
                    clear z153 z154 z155 z157 z158 z159 z160 z161 z162 z163 z164
                    refine mv_aload_n d_TrustDeskModel_fund_127 rfl rfl ?_
                    obtain ⟨a195, q194, t_a195⟩ := tm_atR I172 t75 (k := 37) rfl
                    refine tr_getK q194 d_TrustDeskModel_fund_128 f_TrustDeskModel_79_13 ?_
                    refine mv_iload d_TrustDeskModel_fund_131 rfl ?_
                    refine mv_iconst (v := (-1)) d_TrustDeskModel_fund_133 (by decide) ?_
                    refine tr_iastR (k := 37) I172 R174 (I172.up h_o0) q194 t_a195 (by decide) (by decide) (fun lo hi h => by cases h; exact (by decide)) (Or.inl (by decide)) d_TrustDeskModel_fund_134 (vp_in_iff.mpr (by have := R174.1 15 _ _ rfl; have := R174.1 16 _ _ rfl; have := R174.1 19 _ _ rfl; omega)) (fun M196 I197 K198 R199 E200 A201 V202 => ?_)
                    have z203 := (V202 15).trans z178
                    have z204 := (V202 16).trans z179
                    have z205 := (V202 17).trans z180
                    have z206 := (V202 19).trans z181
                    have z207 := (V202 22).trans z182
                    have z208 := (V202 24).trans z183
                    have z209 := (V202 27).trans z184
                    have z210 := (V202 32).trans z185
                    have z211 := (V202 49).trans z186
                    have z212 := (A201 5 (by decide) rfl 44).trans z187
                    have z213 := (A201 6 (by decide) rfl 44).trans z188
                    have z214 := (A201 6 (by decide) rfl ((20 + v62).toNatClampNeg)).trans z189
                    have K215 : rP M196 o0 := K190.out A201 E200 V202 (by have := mz_nat9 (i := v62) (by have := R174.1 15 _ _ rfl; have := R174.1 16 _ _ rfl; have := R174.1 19 _ _ rfl; omega); have := R174.1 15 _ _ rfl; have := R174.1 16 _ _ rfl; have := R174.1 19 _ _ rfl; omega)
                    have K216 : rB M196 o0 12 := K191.out A201 E200 V202 (by have := mz_nat9 (i := v62) (by have := R174.1 15 _ _ rfl; have := R174.1 16 _ _ rfl; have := R174.1 19 _ _ rfl; omega); have := R174.1 15 _ _ rfl; have := R174.1 16 _ _ rfl; have := R174.1 19 _ _ rfl; omega)
                    have K217 : sA [7] M64 M196 o0 := K192.trans (sA_a A201 (by decide))
                    have K218 : rC M196 o0 ((20 + v62).toNatClampNeg) := K193.same (sA_a A201 (by decide)) (sF_a V202)
                    have := (K191.2 v62.toNatClampNeg (by have := mz_nat9 (i := v62) (by have := R174.1 15 _ _ rfl; have := R174.1 16 _ _ rfl; have := R174.1 19 _ _ rfl; omega); have := R174.1 15 _ _ rfl; have := R174.1 16 _ _ rfl; have := R174.1 19 _ _ rfl; omega) (by have := mz_nat9 (i := v62) (by have := R174.1 15 _ _ rfl; have := R174.1 16 _ _ rfl; have := R174.1 19 _ _ rfl; omega); have := R174.1 15 _ _ rfl; have := R174.1 16 _ _ rfl; have := R174.1 19 _ _ rfl; omega)).1 (by have := mz_nat9 (i := v62) (by have := R174.1 15 _ _ rfl; have := R174.1 16 _ _ rfl; have := R174.1 19 _ _ rfl; omega); have := R174.1 15 _ _ rfl; have := R174.1 16 _ _ rfl; have := R174.1 19 _ _ rfl; omega)
                    have := A201 43 (by decide) rfl v62.toNatClampNeg
                    have : ra M196 o0 37 v62.toNatClampNeg = -1 := (E200 _).trans (if_pos rfl)
                    clear z178 z179 z180 z182 z183 z184 z185 z186 z187 z188 z189
                    refine mv_aload_n d_TrustDeskModel_fund_135 rfl rfl ?_
                    obtain ⟨a220, q219, t_a220⟩ := tm_atR I197 t75 (k := 38) rfl
                    refine tr_getK q219 d_TrustDeskModel_fund_136 f_TrustDeskModel_82_13 ?_
                    refine mv_iload d_TrustDeskModel_fund_139 rfl ?_
                    refine mv_bipush (v := 7) d_TrustDeskModel_fund_141 (by decide) ?_
                    refine tr_iastR (k := 38) I197 R199 (I197.up h_o0) q219 t_a220 (by decide) (by decide) (fun lo hi h => by cases h) (Or.inl (by decide)) d_TrustDeskModel_fund_143 (vp_in_iff.mpr (by have := R199.1 15 _ _ rfl; have := R199.1 16 _ _ rfl; have := R199.1 19 _ _ rfl; omega)) (fun M221 I222 K223 R224 E225 A226 V227 => ?_)
                    have z228 := (V227 15).trans z203
                    have z229 := (V227 16).trans z204
                    have z230 := (V227 17).trans z205
                    have z231 := (V227 19).trans z206
                    have z232 := (V227 22).trans z207
                    have z233 := (V227 24).trans z208
                    have z234 := (V227 27).trans z209
                    have z235 := (V227 32).trans z210
                    have z236 := (V227 49).trans z211
                    have z237 := (A226 5 (by decide) rfl 44).trans z212
                    have z238 := (A226 6 (by decide) rfl 44).trans z213
                    have z239 := (A226 6 (by decide) rfl ((20 + v62).toNatClampNeg)).trans z214
                    have z240 := (A226 43 (by decide) rfl v62.toNatClampNeg)
                    have z241 := (A226 37 (by decide) rfl v62.toNatClampNeg)
                    have K242 : rP M221 o0 := K215.same (sA_a A226 (by decide)) (sF_a V227)
                    have K243 : rB M221 o0 12 := K216.same (sA_a A226 (by decide)) (sF_a V227)
                    have K244 : sA [7] M64 M221 o0 := K217.trans (sA_a A226 (by decide))
                    have K245 : rC M221 o0 ((20 + v62).toNatClampNeg) := K218.same (sA_a A226 (by decide)) (sF_a V227)
                    clear z203 z204 z205 z207 z208 z209 z210 z211 z212 z213 z214
                    refine mv_aload_n d_TrustDeskModel_fund_144 rfl rfl ?_
                    obtain ⟨a247, q246, t_a247⟩ := tm_atR I222 t75 (k := 39) rfl
                    refine tr_getK q246 d_TrustDeskModel_fund_145 f_TrustDeskModel_85_13 ?_
                    refine mv_iload d_TrustDeskModel_fund_148 rfl ?_
                    refine mv_iconst (v := 1) d_TrustDeskModel_fund_150 (by decide) ?_
                    refine tr_iastR (k := 39) I222 R224 (I222.up h_o0) q246 t_a247 (by decide) (by decide) (fun lo hi h => by cases h) (Or.inl (by decide)) d_TrustDeskModel_fund_151 (vp_in_iff.mpr (by have := R224.1 15 _ _ rfl; have := R224.1 16 _ _ rfl; have := R224.1 19 _ _ rfl; omega)) (fun M248 I249 K250 R251 E252 A253 V254 => ?_)
                    have z255 := (V254 15).trans z228
                    have z256 := (V254 16).trans z229
                    have z257 := (V254 17).trans z230
                    have z258 := (V254 19).trans z231
                    have z259 := (V254 22).trans z232
                    have z260 := (V254 24).trans z233
                    have z261 := (V254 27).trans z234
                    have z262 := (V254 32).trans z235
                    have z263 := (V254 49).trans z236
                    have z264 := (A253 5 (by decide) rfl 44).trans z237
                    have z265 := (A253 6 (by decide) rfl 44).trans z238
                    have z266 := (A253 6 (by decide) rfl ((20 + v62).toNatClampNeg)).trans z239
                    have z267 := (A253 43 (by decide) rfl v62.toNatClampNeg).trans z240
                    have z268 := (A253 37 (by decide) rfl v62.toNatClampNeg).trans z241
                    have K269 : rP M248 o0 := K242.same (sA_a A253 (by decide)) (sF_a V254)
                    have K270 : rB M248 o0 12 := K243.same (sA_a A253 (by decide)) (sF_a V254)
                    have K271 : sA [7] M64 M248 o0 := K244.trans (sA_a A253 (by decide))
                    have K272 : rC M248 o0 ((20 + v62).toNatClampNeg) := K245.same (sA_a A253 (by decide)) (sF_a V254)
                    clear z228 z229 z230 z232 z233 z234 z235 z236 z237 z238 z239 z240 z241
                    refine mv_iconst (v := 0) d_TrustDeskModel_fund_152 (by decide) ?_
                    refine mv_istore (lv' := [(6, .int 0), (5, .int v62), (4, .int v71), (3, .int (20 + v62)), (0, .ref o0), (1, .int x1), (2, .int x2)]) d_TrustDeskModel_fund_153 (by decide) rfl ?_
                    have L155_273 : ∀ (k : Nat) (i6_273 : Int32) (T_273 : tm_H) (M_273 : mj_M) (n_273 : Nat), tm_I tm_FT (tm_in w_TrustDeskModel_fund_x) x9 T0 M0 n0 T_273 M_273 n_273 → T_273 o0 = some (0, 13, 0) → 0 ≤ i6_273.toInt → rv M_273 o0 27 = rv M0 o0 27 → rv M_273 o0 32 = rv M0 o0 32 → rv M_273 o0 49 = rv M0 o0 49 → ra M_273 o0 6 (20 + v62).toNatClampNeg = ra M64 o0 6 (20 + v62).toNatClampNeg → ra M_273 o0 37 (v62).toNatClampNeg = -1 → ra M_273 o0 43 (v62).toNatClampNeg ≤ i6_273.toInt → ra M_273 o0 43 (v62).toNatClampNeg ≤ kc M64 o0 (20 * (20 + v62).toNatClampNeg) (i6_273.toInt).toNat → i6_273.toInt ≤ ra M64 o0 6 (20 + v62).toNatClampNeg → (rI M_273 o0) → (rP M_273 o0) → (rB M_273 o0 v62.toNatClampNeg) → (sA [7] M64 M_273 o0) → (rC M_273 o0 ((20 + v62).toNatClampNeg)) → 2147483647 - i6_273.toInt < (k : Int) → mj_V g l kY_TrustDeskModel_fund (d + 27) 155 [(6, .int i6_273), (5, .int v62), (4, .int v71), (3, .int (20 + v62)), (0, .ref o0), (1, .int x1), (2, .int x2)] [] M_273 n_273 0 0 (tm_Q tm_FT (tm_in w_TrustDeskModel_fund_x) x9 T0 M0 n0 (fun r _ M => ∃ v : Int32, r = some (.int v) ∧ rI M o0 ∧ (rC M o0 44) ∧ (rP M o0) ∧ (rB M o0 12) ∧ (rv M0 o0 32 ≤ rv M o0 32))) := by
                      intro k273
                      induction k273 with
                      | zero =>
                        intro i6_273 T_273 M_273 n_273 I_273 h_q0_273 iv0_273 iv1_273 iv2_273 iv3_273 iv4_273 iv5_273 iv6_273 iv7_273 iv8_273 kKR_273 kKP_273 kKB_273 kKY_273 kKC_273 hk273
                        have := mz_hi i6_273
                        have := kKR_273.1 15 _ _ rfl
                        have := kKR_273.1 16 _ _ rfl
                        have := kKR_273.1 19 _ _ rfl
                        omega
                      | succ k273 ih273 =>
                        intro i6_273 T_273 M_273 n_273 I_273 h_q0_273 iv0_273 iv1_273 iv2_273 iv3_273 iv4_273 iv5_273 iv6_273 iv7_273 iv8_273 kKR_273 kKP_273 kKB_273 kKY_273 kKC_273 hk273
                        have := kc_two (M := M64) (o := o0) (b := 20 * (20 + v62).toNatClampNeg) (n := i6_273.toInt.toNat)
                        refine mv_iload d_TrustDeskModel_fund_155 rfl ?_
                        refine mv_aload_n d_TrustDeskModel_fund_157 rfl rfl ?_
                        obtain ⟨a275, q274, t_a275⟩ := tm_atR I_273 h_q0_273 (k := 6) rfl
                        refine tr_getK q274 d_TrustDeskModel_fund_158 f_TrustDeskModel_23_13 ?_
                        refine mv_iload_n d_TrustDeskModel_fund_161 rfl rfl ?_
                        have b276 : (20 + v62 : Int32).toInt = (20 + v62.toInt) := mz_add2 (by decide) rfl (by have := kKR_273.1 15 _ _ rfl; have := kKR_273.1 16 _ _ rfl; have := kKR_273.1 19 _ _ rfl; omega) (by have := kKR_273.1 15 _ _ rfl; have := kKR_273.1 16 _ _ rfl; have := kKR_273.1 19 _ _ rfl; omega)
                        refine tr_ialdR (o := o0) (k := 6) I_273 q274 t_a275 (by decide) d_TrustDeskModel_fund_162 (vp_in_iff.mpr (by have := kKR_273.1 15 _ _ rfl; have := kKR_273.1 16 _ _ rfl; have := kKR_273.1 19 _ _ rfl; omega)) (fun v277 e278 => ?_)
                        have := kKR_273.a (k := 6) rfl ((20 + v62) : Int32).toNatClampNeg
                        have : v277.toInt = ra M_273 o0 6 (20 + v62).toNatClampNeg := e278
                        have := mz_hi i6_273
                        have := mz_hi v277
                        refine mv_icmp_geZ (tgt := 274) (a := i6_273.toInt) (b := v277.toInt) d_TrustDeskModel_fund_163 (by decide) rfl rfl (fun b279 => ?_) (fun b279 => ?_)
                        · refine mv_aload_n d_TrustDeskModel_fund_274 rfl rfl ?_
                          obtain ⟨a281, q280, t_a281⟩ := tm_atR I_273 h_q0_273 (k := 41) rfl
                          refine tr_getK q280 d_TrustDeskModel_fund_275 f_TrustDeskModel_92_13 ?_
                          refine mv_bipush (v := 12) d_TrustDeskModel_fund_278 (by decide) ?_
                          refine mv_iload d_TrustDeskModel_fund_280 rfl ?_
                          refine mv_imul d_TrustDeskModel_fund_282 ?_
                          refine mv_iload d_TrustDeskModel_fund_283 rfl ?_
                          refine mv_iadd d_TrustDeskModel_fund_285 ?_
                          refine mv_ldcw d_TrustDeskModel_fund_286 k_TrustDeskModel_432 ?_
                          have b282 : (12 * v62 : Int32).toInt = (12 * v62.toInt) := mz_mul2 (by decide) rfl (by have := kKR_273.1 15 _ _ rfl; have := kKR_273.1 16 _ _ rfl; have := kKR_273.1 19 _ _ rfl; omega) (by have := kKR_273.1 15 _ _ rfl; have := kKR_273.1 16 _ _ rfl; have := kKR_273.1 19 _ _ rfl; omega)
                          have b283 : ((12 * v62) + v62 : Int32).toInt = ((12 * v62.toInt) + v62.toInt) := mz_add2 b282 rfl (by have := kKR_273.1 15 _ _ rfl; have := kKR_273.1 16 _ _ rfl; have := kKR_273.1 19 _ _ rfl; omega) (by have := kKR_273.1 15 _ _ rfl; have := kKR_273.1 16 _ _ rfl; have := kKR_273.1 19 _ _ rfl; omega)
                          refine tr_iastR (k := 41) I_273 kKR_273 (I_273.up h_o0) q280 t_a281 (by decide) (by decide) (fun lo hi h => by cases h; exact (by decide)) (Or.inl (by decide)) d_TrustDeskModel_fund_289 (vp_in_iff.mpr (by have := kKR_273.1 15 _ _ rfl; have := kKR_273.1 16 _ _ rfl; have := kKR_273.1 19 _ _ rfl; omega)) (fun M284 I285 K286 R287 E288 A289 V290 => ?_)
                          have z291 := (V290 15)
                          have z292 := (V290 16)
                          have z293 := (V290 17)
                          have z294 := (V290 19)
                          have z295 := (V290 22)
                          have z296 := (V290 24)
                          have z297 := (V290 27)
                          have z298 := (V290 32)
                          have z299 := (V290 49)
                          have z300 := (A289 5 (by decide) rfl 44)
                          have z301 := (A289 6 (by decide) rfl 44)
                          have z302 := (A289 6 (by decide) rfl ((20 + v62).toNatClampNeg))
                          have z303 := (A289 43 (by decide) rfl v62.toNatClampNeg)
                          have z304 := (A289 37 (by decide) rfl v62.toNatClampNeg)
                          have K305 : sA [7] M64 M284 o0 := kKY_273.trans (sA_a A289 (by decide))
                          have K306 : rC M284 o0 ((20 + v62).toNatClampNeg) := kKC_273.same (sA_a A289 (by decide)) (sF_a V290)
                          have : kc M64 o0 (20 * (20 + v62).toNatClampNeg) i6_273.toInt.toNat ≤ 6 := by rw [show i6_273.toInt.toNat = (ra M_56 o0 6 44).toNat from by omega]; exact h88 (by omega)
                          refine mv_aload_n d_TrustDeskModel_fund_290 rfl rfl ?_
                          refine mv_dup d_TrustDeskModel_fund_291 rfl ?_
                          obtain ⟨v308, q307⟩ := tm_atI I285 h_q0_273 (k := 32) rfl
                          refine tr_getK q307 d_TrustDeskModel_fund_292 f_TrustDeskModel_415_13 ?_
                          have := R287.f (k := 32) q307 rfl
                          refine mv_iconst (v := 1) d_TrustDeskModel_fund_295 (by decide) ?_
                          refine mv_iadd d_TrustDeskModel_fund_296 ?_
                          have b309 : (v308 + 1 : Int32).toInt = (v308.toInt + 1) := mz_add2 rfl (by decide) (by have := R287.1 15 _ _ rfl; have := R287.1 16 _ _ rfl; have := R287.1 19 _ _ rfl; omega) (by have := R287.1 15 _ _ rfl; have := R287.1 16 _ _ rfl; have := R287.1 19 _ _ rfl; omega)
                          refine tr_putR (k := 32) I285 R287 h_q0_273 rfl ⟨_, rfl⟩ (fun _ h => by cases h) rfl (fun lo hi h => by cases h; have := R287.1 15 _ _ rfl; have := R287.1 16 _ _ rfl; have := R287.1 19 _ _ rfl; exact ⟨by show (0 : Int) ≤ (v308 + 1).toInt; omega, by show (v308 + 1).toInt ≤ (12 : Int); omega⟩) (Or.inl (by decide)) d_TrustDeskModel_fund_297 p_TrustDeskModel_415_13 rfl rfl (fun M310 I311 q312 K313 R314 A315 V316 => ?_)
                          have z317 := (V316 15 (by decide)).trans z291
                          have z318 := (V316 16 (by decide)).trans z292
                          have z319 := (V316 17 (by decide)).trans z293
                          have z320 := (V316 19 (by decide)).trans z294
                          have z321 := (V316 22 (by decide)).trans z295
                          have z322 := (V316 24 (by decide)).trans z296
                          have z323 := (V316 27 (by decide)).trans z297
                          have z324 := (V316 49 (by decide)).trans z299
                          have z325 := (A315 5 (by decide) 44).trans z300
                          have z326 := (A315 6 (by decide) 44).trans z301
                          have z327 := (A315 6 (by decide) ((20 + v62).toNatClampNeg)).trans z302
                          have z328 := (A315 43 (by decide) v62.toNatClampNeg).trans z303
                          have z329 := (A315 37 (by decide) v62.toNatClampNeg).trans z304
                          have z330 : rv M310 o0 32 = (v308 + 1).toInt := tm_rv q312
                          have K331 : sA [7] M64 M310 o0 := K305.trans (sA_f A315 (by decide))
                          have K332 : rC M310 o0 44 := rC.fund K306 A315 V316 (by have := mz_nat9 (i := (20 + v62)) (by have := R287.1 15 _ _ rfl; have := R287.1 16 _ _ rfl; have := R287.1 19 _ _ rfl; omega); have := R287.1 15 _ _ rfl; have := R287.1 16 _ _ rfl; have := R287.1 19 _ _ rfl; omega) (by have := R287.1 15 _ _ rfl; have := R287.1 16 _ _ rfl; have := R287.1 19 _ _ rfl; omega) (by have := R287.1 15 _ _ rfl; have := R287.1 16 _ _ rfl; have := R287.1 19 _ _ rfl; omega) (by have := R287.1 15 _ _ rfl; have := R287.1 16 _ _ rfl; have := R287.1 19 _ _ rfl; omega)
                          have h333 := rPB.fund kKP_273 kKB_273 (by have := mz_nat9 (i := v62) (by have := R287.1 15 _ _ rfl; have := R287.1 16 _ _ rfl; have := R287.1 19 _ _ rfl; omega); have := R287.1 15 _ _ rfl; have := R287.1 16 _ _ rfl; have := R287.1 19 _ _ rfl; omega) E288 (by have := mz_nat9 (i := ((12 * v62) + v62)) (by have := R287.1 15 _ _ rfl; have := R287.1 16 _ _ rfl; have := R287.1 19 _ _ rfl; omega); have := R287.1 15 _ _ rfl; have := R287.1 16 _ _ rfl; have := R287.1 19 _ _ rfl; omega) A289 V290 A315 (by have := R287.1 15 _ _ rfl; have := R287.1 16 _ _ rfl; have := R287.1 19 _ _ rfl; omega) (by have := R287.1 15 _ _ rfl; have := R287.1 16 _ _ rfl; have := R287.1 19 _ _ rfl; omega) (by have := R287.1 15 _ _ rfl; have := R287.1 16 _ _ rfl; have := R287.1 19 _ _ rfl; omega) (by have := R287.1 15 _ _ rfl; have := R287.1 16 _ _ rfl; have := R287.1 19 _ _ rfl; omega)
                          have K334 : rP M310 o0 := h333.1
                          have K335 : rB M310 o0 12 := h333.2
                          clear z291 z292 z293 z295 z296 z297 z299 z300 z301 z302 z303 z304
                          refine mv_iload d_TrustDeskModel_fund_300 rfl ?_
                          exact mv_iret d_TrustDeskModel_fund_302 rfl (by first | rfl | decide) ⟨_, I311, _, rfl, R314, K332, K334, K335, (by have := R314.1 15 _ _ rfl; have := R314.1 16 _ _ rfl; have := R314.1 19 _ _ rfl; omega)⟩
                        · refine mv_bipush (v := 20) d_TrustDeskModel_fund_166 (by decide) ?_
                          refine mv_iload_n d_TrustDeskModel_fund_168 rfl rfl ?_
                          refine mv_imul d_TrustDeskModel_fund_169 ?_
                          refine mv_iload d_TrustDeskModel_fund_170 rfl ?_
                          refine mv_iadd d_TrustDeskModel_fund_172 ?_
                          refine mv_istore (lv' := [(7, .int ((20 * (20 + v62)) + i6_273)), (6, .int i6_273), (5, .int v62), (4, .int v71), (3, .int (20 + v62)), (0, .ref o0), (1, .int x1), (2, .int x2)]) d_TrustDeskModel_fund_173 (by decide) rfl ?_
                          refine mv_aload_n d_TrustDeskModel_fund_175 rfl rfl ?_
                          obtain ⟨a337, q336, t_a337⟩ := tm_atR I_273 h_q0_273 (k := 7) rfl
                          refine tr_getK q336 d_TrustDeskModel_fund_176 f_TrustDeskModel_26_13 ?_
                          refine mv_iload d_TrustDeskModel_fund_179 rfl ?_
                          have b338 : (20 + v62 : Int32).toInt = (20 + v62.toInt) := mz_add2 (by decide) rfl (by have := kKR_273.1 15 _ _ rfl; have := kKR_273.1 16 _ _ rfl; have := kKR_273.1 19 _ _ rfl; omega) (by have := kKR_273.1 15 _ _ rfl; have := kKR_273.1 16 _ _ rfl; have := kKR_273.1 19 _ _ rfl; omega)
                          have b339 : (20 * (20 + v62) : Int32).toInt = (20 * (20 + v62.toInt)) := mz_mul2 (by decide) b338 (by have := kKR_273.1 15 _ _ rfl; have := kKR_273.1 16 _ _ rfl; have := kKR_273.1 19 _ _ rfl; omega) (by have := kKR_273.1 15 _ _ rfl; have := kKR_273.1 16 _ _ rfl; have := kKR_273.1 19 _ _ rfl; omega)
                          have b340 : ((20 * (20 + v62)) + i6_273 : Int32).toInt = ((20 * (20 + v62.toInt)) + i6_273.toInt) := mz_add2 b339 rfl (by have := kKR_273.1 15 _ _ rfl; have := kKR_273.1 16 _ _ rfl; have := kKR_273.1 19 _ _ rfl; omega) (by have := kKR_273.1 15 _ _ rfl; have := kKR_273.1 16 _ _ rfl; have := kKR_273.1 19 _ _ rfl; omega)
                          refine tr_ialdR (o := o0) (k := 7) I_273 q336 t_a337 (by decide) d_TrustDeskModel_fund_181 (vp_in_iff.mpr (by have := kKR_273.1 15 _ _ rfl; have := kKR_273.1 16 _ _ rfl; have := kKR_273.1 19 _ _ rfl; omega)) (fun v341 e342 => ?_)
                          have h343 : ((20 * (20 + v62)) + i6_273).toNatClampNeg = 20 * (20 + v62).toNatClampNeg + i6_273.toInt.toNat := by have := mz_nat9 (i := ((20 * (20 + v62)) + i6_273)) (by have := kKR_273.1 15 _ _ rfl; have := kKR_273.1 16 _ _ rfl; have := kKR_273.1 19 _ _ rfl; omega); have := mz_nat9 (i := (20 + v62)) (by have := kKR_273.1 15 _ _ rfl; have := kKR_273.1 16 _ _ rfl; have := kKR_273.1 19 _ _ rfl; omega); have := kKR_273.1 15 _ _ rfl; have := kKR_273.1 16 _ _ rfl; have := kKR_273.1 19 _ _ rfl; omega
                          have : v341.toInt = ra M64 o0 7 (20 * (20 + v62).toNatClampNeg + i6_273.toInt.toNat) := by have e9 := kKY_273 7 rfl; rw [← e9, e342, h343]
                          refine mv_bipush (v := 7) d_TrustDeskModel_fund_182 (by decide) ?_
                          have := mz_hi v341
                          refine mv_icmp_neZ (tgt := 204) (a := v341.toInt) (b := 7) d_TrustDeskModel_fund_184 (by decide) rfl (by decide) (fun b344 => ?_) (fun b344 => ?_)
                          · refine mv_aload_n d_TrustDeskModel_fund_204 rfl rfl ?_
                            refine tr_getK (k := 7) q336 d_TrustDeskModel_fund_205 f_TrustDeskModel_26_13 ?_
                            refine mv_iload d_TrustDeskModel_fund_208 rfl ?_
                            have b345 : (20 + v62 : Int32).toInt = (20 + v62.toInt) := mz_add2 (by decide) rfl (by have := kKR_273.1 15 _ _ rfl; have := kKR_273.1 16 _ _ rfl; have := kKR_273.1 19 _ _ rfl; omega) (by have := kKR_273.1 15 _ _ rfl; have := kKR_273.1 16 _ _ rfl; have := kKR_273.1 19 _ _ rfl; omega)
                            have b346 : (20 * (20 + v62) : Int32).toInt = (20 * (20 + v62.toInt)) := mz_mul2 (by decide) b345 (by have := kKR_273.1 15 _ _ rfl; have := kKR_273.1 16 _ _ rfl; have := kKR_273.1 19 _ _ rfl; omega) (by have := kKR_273.1 15 _ _ rfl; have := kKR_273.1 16 _ _ rfl; have := kKR_273.1 19 _ _ rfl; omega)
                            have b347 : ((20 * (20 + v62)) + i6_273 : Int32).toInt = ((20 * (20 + v62.toInt)) + i6_273.toInt) := mz_add2 b346 rfl (by have := kKR_273.1 15 _ _ rfl; have := kKR_273.1 16 _ _ rfl; have := kKR_273.1 19 _ _ rfl; omega) (by have := kKR_273.1 15 _ _ rfl; have := kKR_273.1 16 _ _ rfl; have := kKR_273.1 19 _ _ rfl; omega)
                            refine tr_ialdR (o := o0) (k := 7) I_273 q336 t_a337 (by decide) d_TrustDeskModel_fund_210 (vp_in_iff.mpr (by have := kKR_273.1 15 _ _ rfl; have := kKR_273.1 16 _ _ rfl; have := kKR_273.1 19 _ _ rfl; omega)) (fun v348 e349 => ?_)
                            have h350 : ((20 * (20 + v62)) + i6_273).toNatClampNeg = 20 * (20 + v62).toNatClampNeg + i6_273.toInt.toNat := by have := mz_nat9 (i := ((20 * (20 + v62)) + i6_273)) (by have := kKR_273.1 15 _ _ rfl; have := kKR_273.1 16 _ _ rfl; have := kKR_273.1 19 _ _ rfl; omega); have := mz_nat9 (i := (20 + v62)) (by have := kKR_273.1 15 _ _ rfl; have := kKR_273.1 16 _ _ rfl; have := kKR_273.1 19 _ _ rfl; omega); have := kKR_273.1 15 _ _ rfl; have := kKR_273.1 16 _ _ rfl; have := kKR_273.1 19 _ _ rfl; omega
                            have : v348.toInt = ra M64 o0 7 (20 * (20 + v62).toNatClampNeg + i6_273.toInt.toNat) := by have e9 := kKY_273 7 rfl; rw [← e9, e349, h350]
                            refine mv_bipush (v := 9) d_TrustDeskModel_fund_211 (by decide) ?_
                            have := mz_hi v348
                            refine mv_icmp_neZ (tgt := 244) (a := v348.toInt) (b := 9) d_TrustDeskModel_fund_213 (by decide) rfl (by decide) (fun b351 => ?_) (fun b351 => ?_)
                            · refine mv_aload_n d_TrustDeskModel_fund_244 rfl rfl ?_
                              refine tr_getK (k := 7) q336 d_TrustDeskModel_fund_245 f_TrustDeskModel_26_13 ?_
                              refine mv_iload d_TrustDeskModel_fund_248 rfl ?_
                              have b352 : (20 + v62 : Int32).toInt = (20 + v62.toInt) := mz_add2 (by decide) rfl (by have := kKR_273.1 15 _ _ rfl; have := kKR_273.1 16 _ _ rfl; have := kKR_273.1 19 _ _ rfl; omega) (by have := kKR_273.1 15 _ _ rfl; have := kKR_273.1 16 _ _ rfl; have := kKR_273.1 19 _ _ rfl; omega)
                              have b353 : (20 * (20 + v62) : Int32).toInt = (20 * (20 + v62.toInt)) := mz_mul2 (by decide) b352 (by have := kKR_273.1 15 _ _ rfl; have := kKR_273.1 16 _ _ rfl; have := kKR_273.1 19 _ _ rfl; omega) (by have := kKR_273.1 15 _ _ rfl; have := kKR_273.1 16 _ _ rfl; have := kKR_273.1 19 _ _ rfl; omega)
                              have b354 : ((20 * (20 + v62)) + i6_273 : Int32).toInt = ((20 * (20 + v62.toInt)) + i6_273.toInt) := mz_add2 b353 rfl (by have := kKR_273.1 15 _ _ rfl; have := kKR_273.1 16 _ _ rfl; have := kKR_273.1 19 _ _ rfl; omega) (by have := kKR_273.1 15 _ _ rfl; have := kKR_273.1 16 _ _ rfl; have := kKR_273.1 19 _ _ rfl; omega)
                              refine tr_ialdR (o := o0) (k := 7) I_273 q336 t_a337 (by decide) d_TrustDeskModel_fund_250 (vp_in_iff.mpr (by have := kKR_273.1 15 _ _ rfl; have := kKR_273.1 16 _ _ rfl; have := kKR_273.1 19 _ _ rfl; omega)) (fun v355 e356 => ?_)
                              have h357 : ((20 * (20 + v62)) + i6_273).toNatClampNeg = 20 * (20 + v62).toNatClampNeg + i6_273.toInt.toNat := by have := mz_nat9 (i := ((20 * (20 + v62)) + i6_273)) (by have := kKR_273.1 15 _ _ rfl; have := kKR_273.1 16 _ _ rfl; have := kKR_273.1 19 _ _ rfl; omega); have := mz_nat9 (i := (20 + v62)) (by have := kKR_273.1 15 _ _ rfl; have := kKR_273.1 16 _ _ rfl; have := kKR_273.1 19 _ _ rfl; omega); have := kKR_273.1 15 _ _ rfl; have := kKR_273.1 16 _ _ rfl; have := kKR_273.1 19 _ _ rfl; omega
                              have : v355.toInt = ra M64 o0 7 (20 * (20 + v62).toNatClampNeg + i6_273.toInt.toNat) := by have e9 := kKY_273 7 rfl; rw [← e9, e356, h357]
                              refine mv_bipush (v := 8) d_TrustDeskModel_fund_251 (by decide) ?_
                              have := mz_hi v355
                              refine mv_icmp_neZ (tgt := 268) (a := v355.toInt) (b := 8) d_TrustDeskModel_fund_253 (by decide) rfl (by decide) (fun b358 => ?_) (fun b358 => ?_)
                              · refine mv_iinc (v := (i6_273 + 1)) (lv' := [(6, .int (i6_273 + 1)), (7, .int ((20 * (20 + v62)) + i6_273)), (5, .int v62), (4, .int v71), (3, .int (20 + v62)), (0, .ref o0), (1, .int x1), (2, .int x2)]) d_TrustDeskModel_fund_268 rfl rfl (by decide) rfl ?_
                                refine mv_goto (tgt := 155) d_TrustDeskModel_fund_271 (by decide) ?_
                                refine mv_locals (lv' := [(6, .int (i6_273 + 1)), (5, .int v62), (4, .int v71), (3, .int (20 + v62)), (0, .ref o0), (1, .int x1), (2, .int x2)]) (by intro q hq; simp only [List.mem_cons, List.not_mem_nil, or_false] at hq; rcases hq with rfl | rfl | rfl | rfl | rfl | rfl | rfl <;> rfl) ?_
                                have b359 : (i6_273 + 1).toInt = i6_273.toInt + 1 := mz_addn 1 1 (by decide) (by have := mz_lo i6_273; omega) (by have := mz_hi i6_273; omega)
                                exact (ih273 (i6_273 + 1) T_273 M_273 n_273 I_273 h_q0_273 (by have := kKR_273.1 15 _ _ rfl; have := kKR_273.1 16 _ _ rfl; have := kKR_273.1 19 _ _ rfl; first | omega | decide | exact fun h9 => absurd (by decide) h9) (by have := kKR_273.1 15 _ _ rfl; have := kKR_273.1 16 _ _ rfl; have := kKR_273.1 19 _ _ rfl; first | omega | decide | exact fun h9 => absurd (by decide) h9) (by have := kKR_273.1 15 _ _ rfl; have := kKR_273.1 16 _ _ rfl; have := kKR_273.1 19 _ _ rfl; first | omega | decide | exact fun h9 => absurd (by decide) h9) (by have := kKR_273.1 15 _ _ rfl; have := kKR_273.1 16 _ _ rfl; have := kKR_273.1 19 _ _ rfl; first | omega | decide | exact fun h9 => absurd (by decide) h9) (by have := kKR_273.1 15 _ _ rfl; have := kKR_273.1 16 _ _ rfl; have := kKR_273.1 19 _ _ rfl; first | omega | decide | exact fun h9 => absurd (by decide) h9) (by have := kKR_273.1 15 _ _ rfl; have := kKR_273.1 16 _ _ rfl; have := kKR_273.1 19 _ _ rfl; first | omega | decide | exact fun h9 => absurd (by decide) h9) (by have := kKR_273.1 15 _ _ rfl; have := kKR_273.1 16 _ _ rfl; have := kKR_273.1 19 _ _ rfl; first | omega | decide | exact fun h9 => absurd (by decide) h9) (by rw [show (i6_273 + 1 : Int32).toInt.toNat = i6_273.toInt.toNat + 1 from by omega]; have := kKR_273.1 15 _ _ rfl; have := kKR_273.1 16 _ _ rfl; have := kKR_273.1 19 _ _ rfl; omega) (by have := kKR_273.1 15 _ _ rfl; have := kKR_273.1 16 _ _ rfl; have := kKR_273.1 19 _ _ rfl; first | omega | decide | exact fun h9 => absurd (by decide) h9) kKR_273 kKP_273 kKB_273 kKY_273 kKC_273 (by have := kKR_273.1 15 _ _ rfl; have := kKR_273.1 16 _ _ rfl; have := kKR_273.1 19 _ _ rfl; omega))
                              · refine mv_aload_n d_TrustDeskModel_fund_256 rfl rfl ?_
                                refine mv_iload d_TrustDeskModel_fund_257 rfl ?_
                                refine mv_iload_n d_TrustDeskModel_fund_259 rfl rfl ?_
                                refine mv_iload d_TrustDeskModel_fund_260 rfl ?_
                                refine mv_iconst (v := 0) d_TrustDeskModel_fund_262 (by decide) ?_
                                refine mv_iconst (v := 0) d_TrustDeskModel_fund_263 (by decide) ?_
                                refine mv_iconst (v := (-1)) d_TrustDeskModel_fund_264 (by decide) ?_
                                obtain ⟨_, b366, -⟩ := I_273.1 _ _ h_q0_273
                                have b367 : (20 + v62 : Int32).toInt = (20 + v62.toInt) := mz_add2 (by decide) rfl (by have := kKR_273.1 15 _ _ rfl; have := kKR_273.1 16 _ _ rfl; have := kKR_273.1 19 _ _ rfl; omega) (by have := kKR_273.1 15 _ _ rfl; have := kKR_273.1 16 _ _ rfl; have := kKR_273.1 19 _ _ rfl; omega)
                                have b368 : (20 + v62 : Int32).toInt = (20 + v62.toInt) := mz_add2 (by decide) rfl (by have := kKR_273.1 15 _ _ rfl; have := kKR_273.1 16 _ _ rfl; have := kKR_273.1 19 _ _ rfl; omega) (by have := kKR_273.1 15 _ _ rfl; have := kKR_273.1 16 _ _ rfl; have := kKR_273.1 19 _ _ rfl; omega)
                                have b369 : (20 * (20 + v62) : Int32).toInt = (20 * (20 + v62.toInt)) := mz_mul2 (by decide) b368 (by have := kKR_273.1 15 _ _ rfl; have := kKR_273.1 16 _ _ rfl; have := kKR_273.1 19 _ _ rfl; omega) (by have := kKR_273.1 15 _ _ rfl; have := kKR_273.1 16 _ _ rfl; have := kKR_273.1 19 _ _ rfl; omega)
                                have b370 : ((20 * (20 + v62)) + i6_273 : Int32).toInt = ((20 * (20 + v62.toInt)) + i6_273.toInt) := mz_add2 b369 rfl (by have := kKR_273.1 15 _ _ rfl; have := kKR_273.1 16 _ _ rfl; have := kKR_273.1 19 _ _ rfl; omega) (by have := kKR_273.1 15 _ _ rfl; have := kKR_273.1 16 _ _ rfl; have := kKR_273.1 19 _ _ rfl; omega)
                                have : (0 : Int32).toInt = 0 := by decide
                                have : (0 : Int32).toInt = 0 := by decide
                                have : ((-1) : Int32).toInt = (-1) := by decide
                                refine mv_callV (kc' := 0) (ks' := 0) (As := [.int v62, .int (20 + v62), .int ((20 * (20 + v62)) + i6_273), .int 0, .int 0, .int (-1)]) (st9 := [.int (-1), .int 0, .int 0, .int ((20 * (20 + v62)) + i6_273), .int (20 + v62), .int v62, .ref o0]) d_TrustDeskModel_fund_265 lV_TrustDeskModel_428 b366 rfl (tc_TrustDeskModel_addEnd_x (d := (d + 26)) (x9 := x9) (o0 := o0) (x1 := v62) (x2 := (20 + v62)) (x3 := ((20 * (20 + v62)) + i6_273)) (x4 := 0) (x5 := 0) (x6 := (-1)) h_q0_273 (by have := kKR_273.1 15 _ _ rfl; have := kKR_273.1 16 _ _ rfl; have := kKR_273.1 19 _ _ rfl; omega) (by have := kKR_273.1 15 _ _ rfl; have := kKR_273.1 16 _ _ rfl; have := kKR_273.1 19 _ _ rfl; omega) (by have := kKR_273.1 15 _ _ rfl; have := kKR_273.1 16 _ _ rfl; have := kKR_273.1 19 _ _ rfl; omega) kKR_273 (by have := kKR_273.1 15 _ _ rfl; have := kKR_273.1 16 _ _ rfl; have := kKR_273.1 19 _ _ rfl; omega) I_273.start) rfl (Nat.le_of_ble_eq_true rfl) (Nat.le_of_ble_eq_true rfl) (Nat.le_of_ble_eq_true rfl) (hst := rfl) (fun b360r M361 n362 b360 => ?_)
                                obtain ⟨T363, J364, rfl, R371, f372⟩ := b360
                                have I365 := I_273.call J364 (tm_sub (by decide)) (Or.inl rfl)
                                have t373 := J364.up h_q0_273
                                have z374 := (rv_c I_273 J364 (I_273.up h_o0) (k := 15) rfl)
                                have z375 := (rv_c I_273 J364 (I_273.up h_o0) (k := 16) rfl)
                                have z376 := (rv_c I_273 J364 (I_273.up h_o0) (k := 17) rfl)
                                have z377 := (rv_c I_273 J364 (I_273.up h_o0) (k := 19) rfl)
                                have z378 := (rv_c I_273 J364 (I_273.up h_o0) (k := 22) rfl)
                                have z379 := (rv_c I_273 J364 (I_273.up h_o0) (k := 24) rfl)
                                have z380 := (rv_c I_273 J364 (I_273.up h_o0) (k := 27) rfl)
                                have z381 := (rv_c I_273 J364 (I_273.up h_o0) (k := 32) rfl)
                                have z382 := (rv_c I_273 J364 (I_273.up h_o0) (k := 49) rfl)
                                have z383 := (ra_call I_273 J364 (I_273.up h_o0) (k := 5) rfl rfl rfl 44)
                                have z384 := (ra_call I_273 J364 (I_273.up h_o0) (k := 6) rfl rfl rfl 44)
                                have z385 := (ra_call I_273 J364 (I_273.up h_o0) (k := 6) rfl rfl rfl ((20 + v62).toNatClampNeg))
                                have z386 := (ra_call I_273 J364 (I_273.up h_o0) (k := 37) rfl rfl rfl v62.toNatClampNeg)
                                have K387 : rP M361 o0 := kKP_273.same (sA_c I_273 J364 (I_273.up h_o0) (by decide)) (sF_c I_273 J364 (I_273.up h_o0) (by decide))
                                have K388 : rB M361 o0 v62.toNatClampNeg := kKB_273.add f372 (sA_c I_273 J364 (I_273.up h_o0) (by decide)) (sF_c I_273 J364 (I_273.up h_o0) (by decide)) (by have := mz_nat9 (i := v62) (by have := kKR_273.1 15 _ _ rfl; have := kKR_273.1 16 _ _ rfl; have := kKR_273.1 19 _ _ rfl; omega); have := kKR_273.1 15 _ _ rfl; have := kKR_273.1 16 _ _ rfl; have := kKR_273.1 19 _ _ rfl; omega)
                                have K389 : sA [7] M64 M361 o0 := kKY_273.trans (sA_c I_273 J364 (I_273.up h_o0) (by decide))
                                have K390 : rC M361 o0 ((20 + v62).toNatClampNeg) := kKC_273.add kKR_273 f372 (by have := mz_nat9 (i := v62) (by have := kKR_273.1 15 _ _ rfl; have := kKR_273.1 16 _ _ rfl; have := kKR_273.1 19 _ _ rfl; omega); have := kKR_273.1 15 _ _ rfl; have := kKR_273.1 16 _ _ rfl; have := kKR_273.1 19 _ _ rfl; omega) i6_273.toInt.toNat (by have := kKR_273.1 15 _ _ rfl; have := kKR_273.1 16 _ _ rfl; have := kKR_273.1 19 _ _ rfl; omega) (by have := mz_nat9 (i := i6_273) (by have := kKR_273.1 15 _ _ rfl; have := kKR_273.1 16 _ _ rfl; have := kKR_273.1 19 _ _ rfl; omega); have := kKR_273.1 15 _ _ rfl; have := kKR_273.1 16 _ _ rfl; have := kKR_273.1 19 _ _ rfl; omega) (by rw [show ((20 * (20 + v62)) + i6_273).toInt.toNat = ((20 * (20 + v62)) + i6_273).toNatClampNeg from by have := mz_nat9 (i := ((20 * (20 + v62)) + i6_273)) (by have := kKR_273.1 15 _ _ rfl; have := kKR_273.1 16 _ _ rfl; have := kKR_273.1 19 _ _ rfl; omega); have := kKR_273.1 15 _ _ rfl; have := kKR_273.1 16 _ _ rfl; have := kKR_273.1 19 _ _ rfl; omega]; omega) (sA_c I_273 J364 (I_273.up h_o0) (by decide)) (sF_c I_273 J364 (I_273.up h_o0) (by decide))
                                have := f372.2.2 v62.toNatClampNeg
                                rw [if_pos rfl] at this
                                have q391 := J364.keep h_q0_273 (by decide) q274
                                have t392 := J364.up t_a275
                                have q393 := J364.keep h_q0_273 (by decide) q336
                                have t394 := J364.up t_a337
                                refine mv_iinc (v := (i6_273 + 1)) (lv' := [(6, .int (i6_273 + 1)), (7, .int ((20 * (20 + v62)) + i6_273)), (5, .int v62), (4, .int v71), (3, .int (20 + v62)), (0, .ref o0), (1, .int x1), (2, .int x2)]) d_TrustDeskModel_fund_268 rfl rfl (by decide) rfl ?_
                                refine mv_goto (tgt := 155) d_TrustDeskModel_fund_271 (by decide) ?_
                                refine mv_locals (lv' := [(6, .int (i6_273 + 1)), (5, .int v62), (4, .int v71), (3, .int (20 + v62)), (0, .ref o0), (1, .int x1), (2, .int x2)]) (by intro q hq; simp only [List.mem_cons, List.not_mem_nil, or_false] at hq; rcases hq with rfl | rfl | rfl | rfl | rfl | rfl | rfl <;> rfl) ?_
                                have b395 : (i6_273 + 1).toInt = i6_273.toInt + 1 := mz_addn 1 1 (by decide) (by have := mz_lo i6_273; omega) (by have := mz_hi i6_273; omega)
                                exact (ih273 (i6_273 + 1) T363 M361 n362 I365 t373 (by have := R371.1 15 _ _ rfl; have := R371.1 16 _ _ rfl; have := R371.1 19 _ _ rfl; first | omega | decide | exact fun h9 => absurd (by decide) h9) (by have := R371.1 15 _ _ rfl; have := R371.1 16 _ _ rfl; have := R371.1 19 _ _ rfl; first | omega | decide | exact fun h9 => absurd (by decide) h9) (by have := R371.1 15 _ _ rfl; have := R371.1 16 _ _ rfl; have := R371.1 19 _ _ rfl; first | omega | decide | exact fun h9 => absurd (by decide) h9) (by have := R371.1 15 _ _ rfl; have := R371.1 16 _ _ rfl; have := R371.1 19 _ _ rfl; first | omega | decide | exact fun h9 => absurd (by decide) h9) (by have := R371.1 15 _ _ rfl; have := R371.1 16 _ _ rfl; have := R371.1 19 _ _ rfl; first | omega | decide | exact fun h9 => absurd (by decide) h9) (by have := R371.1 15 _ _ rfl; have := R371.1 16 _ _ rfl; have := R371.1 19 _ _ rfl; first | omega | decide | exact fun h9 => absurd (by decide) h9) (by have := R371.1 15 _ _ rfl; have := R371.1 16 _ _ rfl; have := R371.1 19 _ _ rfl; first | omega | decide | exact fun h9 => absurd (by decide) h9) (by rw [show (i6_273 + 1 : Int32).toInt.toNat = i6_273.toInt.toNat + 1 from by omega]; have := R371.1 15 _ _ rfl; have := R371.1 16 _ _ rfl; have := R371.1 19 _ _ rfl; omega) (by have := R371.1 15 _ _ rfl; have := R371.1 16 _ _ rfl; have := R371.1 19 _ _ rfl; first | omega | decide | exact fun h9 => absurd (by decide) h9) R371 K387 K388 K389 K390 (by have := R371.1 15 _ _ rfl; have := R371.1 16 _ _ rfl; have := R371.1 19 _ _ rfl; omega))
                            · refine mv_aload_n d_TrustDeskModel_fund_216 rfl rfl ?_
                              obtain ⟨a397, q396, t_a397⟩ := tm_atR I_273 h_q0_273 (k := 38) rfl
                              refine tr_getK q396 d_TrustDeskModel_fund_217 f_TrustDeskModel_82_13 ?_
                              refine mv_iload d_TrustDeskModel_fund_220 rfl ?_
                              refine mv_aload_n d_TrustDeskModel_fund_222 rfl rfl ?_
                              obtain ⟨a399, q398, t_a399⟩ := tm_atR I_273 h_q0_273 (k := 8) rfl
                              refine tr_getK q398 d_TrustDeskModel_fund_223 f_TrustDeskModel_29_13 ?_
                              refine mv_iload d_TrustDeskModel_fund_226 rfl ?_
                              have b400 : (20 + v62 : Int32).toInt = (20 + v62.toInt) := mz_add2 (by decide) rfl (by have := kKR_273.1 15 _ _ rfl; have := kKR_273.1 16 _ _ rfl; have := kKR_273.1 19 _ _ rfl; omega) (by have := kKR_273.1 15 _ _ rfl; have := kKR_273.1 16 _ _ rfl; have := kKR_273.1 19 _ _ rfl; omega)
                              have b401 : (20 * (20 + v62) : Int32).toInt = (20 * (20 + v62.toInt)) := mz_mul2 (by decide) b400 (by have := kKR_273.1 15 _ _ rfl; have := kKR_273.1 16 _ _ rfl; have := kKR_273.1 19 _ _ rfl; omega) (by have := kKR_273.1 15 _ _ rfl; have := kKR_273.1 16 _ _ rfl; have := kKR_273.1 19 _ _ rfl; omega)
                              have b402 : ((20 * (20 + v62)) + i6_273 : Int32).toInt = ((20 * (20 + v62.toInt)) + i6_273.toInt) := mz_add2 b401 rfl (by have := kKR_273.1 15 _ _ rfl; have := kKR_273.1 16 _ _ rfl; have := kKR_273.1 19 _ _ rfl; omega) (by have := kKR_273.1 15 _ _ rfl; have := kKR_273.1 16 _ _ rfl; have := kKR_273.1 19 _ _ rfl; omega)
                              refine tr_ialdR (o := o0) (k := 8) I_273 q398 t_a399 (by decide) d_TrustDeskModel_fund_228 (vp_in_iff.mpr (by have := kKR_273.1 15 _ _ rfl; have := kKR_273.1 16 _ _ rfl; have := kKR_273.1 19 _ _ rfl; omega)) (fun v403 e404 => ?_)
                              have := kKR_273.a (k := 8) rfl (((20 * (20 + v62)) + i6_273) : Int32).toNatClampNeg
                              refine tr_iastR (k := 38) I_273 kKR_273 (I_273.up h_o0) q396 t_a397 (by decide) (by decide) (fun lo hi h => by cases h) (Or.inl (by decide)) d_TrustDeskModel_fund_229 (vp_in_iff.mpr (by have := kKR_273.1 15 _ _ rfl; have := kKR_273.1 16 _ _ rfl; have := kKR_273.1 19 _ _ rfl; omega)) (fun M405 I406 K407 R408 E409 A410 V411 => ?_)
                              have z412 := (V411 15)
                              have z413 := (V411 16)
                              have z414 := (V411 17)
                              have z415 := (V411 19)
                              have z416 := (V411 22)
                              have z417 := (V411 24)
                              have z418 := (V411 27)
                              have z419 := (V411 32)
                              have z420 := (V411 49)
                              have z421 := (A410 5 (by decide) rfl 44)
                              have z422 := (A410 6 (by decide) rfl 44)
                              have z423 := (A410 6 (by decide) rfl ((20 + v62).toNatClampNeg))
                              have z424 := (A410 43 (by decide) rfl v62.toNatClampNeg)
                              have z425 := (A410 37 (by decide) rfl v62.toNatClampNeg)
                              have K426 : rP M405 o0 := kKP_273.same (sA_a A410 (by decide)) (sF_a V411)
                              have K427 : rB M405 o0 v62.toNatClampNeg := kKB_273.same (sA_a A410 (by decide)) (sF_a V411)
                              have K428 : sA [7] M64 M405 o0 := kKY_273.trans (sA_a A410 (by decide))
                              have K429 : rC M405 o0 ((20 + v62).toNatClampNeg) := kKC_273.same (sA_a A410 (by decide)) (sF_a V411)
                              refine mv_aload_n d_TrustDeskModel_fund_230 rfl rfl ?_
                              obtain ⟨a431, q430, t_a431⟩ := tm_atR I406 h_q0_273 (k := 39) rfl
                              refine tr_getK q430 d_TrustDeskModel_fund_231 f_TrustDeskModel_85_13 ?_
                              refine mv_iload d_TrustDeskModel_fund_234 rfl ?_
                              refine mv_aload_n d_TrustDeskModel_fund_236 rfl rfl ?_
                              obtain ⟨a433, q432, t_a433⟩ := tm_atR I406 h_q0_273 (k := 9) rfl
                              refine tr_getK q432 d_TrustDeskModel_fund_237 f_TrustDeskModel_32_13 ?_
                              refine mv_iload d_TrustDeskModel_fund_240 rfl ?_
                              have b434 : (20 + v62 : Int32).toInt = (20 + v62.toInt) := mz_add2 (by decide) rfl (by have := R408.1 15 _ _ rfl; have := R408.1 16 _ _ rfl; have := R408.1 19 _ _ rfl; omega) (by have := R408.1 15 _ _ rfl; have := R408.1 16 _ _ rfl; have := R408.1 19 _ _ rfl; omega)
                              have b435 : (20 * (20 + v62) : Int32).toInt = (20 * (20 + v62.toInt)) := mz_mul2 (by decide) b434 (by have := R408.1 15 _ _ rfl; have := R408.1 16 _ _ rfl; have := R408.1 19 _ _ rfl; omega) (by have := R408.1 15 _ _ rfl; have := R408.1 16 _ _ rfl; have := R408.1 19 _ _ rfl; omega)
                              have b436 : ((20 * (20 + v62)) + i6_273 : Int32).toInt = ((20 * (20 + v62.toInt)) + i6_273.toInt) := mz_add2 b435 rfl (by have := R408.1 15 _ _ rfl; have := R408.1 16 _ _ rfl; have := R408.1 19 _ _ rfl; omega) (by have := R408.1 15 _ _ rfl; have := R408.1 16 _ _ rfl; have := R408.1 19 _ _ rfl; omega)
                              refine tr_ialdR (o := o0) (k := 9) I406 q432 t_a433 (by decide) d_TrustDeskModel_fund_242 (vp_in_iff.mpr (by have := R408.1 15 _ _ rfl; have := R408.1 16 _ _ rfl; have := R408.1 19 _ _ rfl; omega)) (fun v437 e438 => ?_)
                              refine tr_iastR (k := 39) I406 R408 (I406.up h_o0) q430 t_a431 (by decide) (by decide) (fun lo hi h => by cases h) (Or.inl (by decide)) d_TrustDeskModel_fund_243 (vp_in_iff.mpr (by have := R408.1 15 _ _ rfl; have := R408.1 16 _ _ rfl; have := R408.1 19 _ _ rfl; omega)) (fun M439 I440 K441 R442 E443 A444 V445 => ?_)
                              have z446 := (V445 15).trans z412
                              have z447 := (V445 16).trans z413
                              have z448 := (V445 17).trans z414
                              have z449 := (V445 19).trans z415
                              have z450 := (V445 22).trans z416
                              have z451 := (V445 24).trans z417
                              have z452 := (V445 27).trans z418
                              have z453 := (V445 32).trans z419
                              have z454 := (V445 49).trans z420
                              have z455 := (A444 5 (by decide) rfl 44).trans z421
                              have z456 := (A444 6 (by decide) rfl 44).trans z422
                              have z457 := (A444 6 (by decide) rfl ((20 + v62).toNatClampNeg)).trans z423
                              have z458 := (A444 43 (by decide) rfl v62.toNatClampNeg).trans z424
                              have z459 := (A444 37 (by decide) rfl v62.toNatClampNeg).trans z425
                              have K460 : rP M439 o0 := K426.same (sA_a A444 (by decide)) (sF_a V445)
                              have K461 : rB M439 o0 v62.toNatClampNeg := K427.same (sA_a A444 (by decide)) (sF_a V445)
                              have K462 : sA [7] M64 M439 o0 := K428.trans (sA_a A444 (by decide))
                              have K463 : rC M439 o0 ((20 + v62).toNatClampNeg) := K429.same (sA_a A444 (by decide)) (sF_a V445)
                              clear z412 z413 z414 z416 z417 z418 z419 z420 z421 z422 z423 z424 z425
                              refine mv_aload_n d_TrustDeskModel_fund_244 rfl rfl ?_
                              refine tr_getK (k := 7) (K441 _ 13 7 _ (K407 _ 13 7 _ q336)) d_TrustDeskModel_fund_245 f_TrustDeskModel_26_13 ?_
                              refine mv_iload d_TrustDeskModel_fund_248 rfl ?_
                              have b464 : (20 + v62 : Int32).toInt = (20 + v62.toInt) := mz_add2 (by decide) rfl (by have := R442.1 15 _ _ rfl; have := R442.1 16 _ _ rfl; have := R442.1 19 _ _ rfl; omega) (by have := R442.1 15 _ _ rfl; have := R442.1 16 _ _ rfl; have := R442.1 19 _ _ rfl; omega)
                              have b465 : (20 * (20 + v62) : Int32).toInt = (20 * (20 + v62.toInt)) := mz_mul2 (by decide) b464 (by have := R442.1 15 _ _ rfl; have := R442.1 16 _ _ rfl; have := R442.1 19 _ _ rfl; omega) (by have := R442.1 15 _ _ rfl; have := R442.1 16 _ _ rfl; have := R442.1 19 _ _ rfl; omega)
                              have b466 : ((20 * (20 + v62)) + i6_273 : Int32).toInt = ((20 * (20 + v62.toInt)) + i6_273.toInt) := mz_add2 b465 rfl (by have := R442.1 15 _ _ rfl; have := R442.1 16 _ _ rfl; have := R442.1 19 _ _ rfl; omega) (by have := R442.1 15 _ _ rfl; have := R442.1 16 _ _ rfl; have := R442.1 19 _ _ rfl; omega)
                              refine tr_ialdR (o := o0) (k := 7) I440 (K441 _ 13 7 _ (K407 _ 13 7 _ q336)) t_a337 (by decide) d_TrustDeskModel_fund_250 (vp_in_iff.mpr (by have := R442.1 15 _ _ rfl; have := R442.1 16 _ _ rfl; have := R442.1 19 _ _ rfl; omega)) (fun v467 e468 => ?_)
                              have h469 : ((20 * (20 + v62)) + i6_273).toNatClampNeg = 20 * (20 + v62).toNatClampNeg + i6_273.toInt.toNat := by have := mz_nat9 (i := ((20 * (20 + v62)) + i6_273)) (by have := R442.1 15 _ _ rfl; have := R442.1 16 _ _ rfl; have := R442.1 19 _ _ rfl; omega); have := mz_nat9 (i := (20 + v62)) (by have := R442.1 15 _ _ rfl; have := R442.1 16 _ _ rfl; have := R442.1 19 _ _ rfl; omega); have := R442.1 15 _ _ rfl; have := R442.1 16 _ _ rfl; have := R442.1 19 _ _ rfl; omega
                              have : v467.toInt = ra M64 o0 7 (20 * (20 + v62).toNatClampNeg + i6_273.toInt.toNat) := by have e9 := K462 7 rfl; rw [← e9, e468, h469]
                              refine mv_bipush (v := 8) d_TrustDeskModel_fund_251 (by decide) ?_
                              have := mz_hi v467
                              refine mv_icmp_neZ (tgt := 268) (a := v467.toInt) (b := 8) d_TrustDeskModel_fund_253 (by decide) rfl (by decide) (fun b470 => ?_) (fun b470 => ?_)
                              · refine mv_iinc (v := (i6_273 + 1)) (lv' := [(6, .int (i6_273 + 1)), (7, .int ((20 * (20 + v62)) + i6_273)), (5, .int v62), (4, .int v71), (3, .int (20 + v62)), (0, .ref o0), (1, .int x1), (2, .int x2)]) d_TrustDeskModel_fund_268 rfl rfl (by decide) rfl ?_
                                refine mv_goto (tgt := 155) d_TrustDeskModel_fund_271 (by decide) ?_
                                refine mv_locals (lv' := [(6, .int (i6_273 + 1)), (5, .int v62), (4, .int v71), (3, .int (20 + v62)), (0, .ref o0), (1, .int x1), (2, .int x2)]) (by intro q hq; simp only [List.mem_cons, List.not_mem_nil, or_false] at hq; rcases hq with rfl | rfl | rfl | rfl | rfl | rfl | rfl <;> rfl) ?_
                                have b471 : (i6_273 + 1).toInt = i6_273.toInt + 1 := mz_addn 1 1 (by decide) (by have := mz_lo i6_273; omega) (by have := mz_hi i6_273; omega)
                                exact (ih273 (i6_273 + 1) T_273 M439 n_273 I440 h_q0_273 (by have := R442.1 15 _ _ rfl; have := R442.1 16 _ _ rfl; have := R442.1 19 _ _ rfl; first | omega | decide | exact fun h9 => absurd (by decide) h9) (by have := R442.1 15 _ _ rfl; have := R442.1 16 _ _ rfl; have := R442.1 19 _ _ rfl; first | omega | decide | exact fun h9 => absurd (by decide) h9) (by have := R442.1 15 _ _ rfl; have := R442.1 16 _ _ rfl; have := R442.1 19 _ _ rfl; first | omega | decide | exact fun h9 => absurd (by decide) h9) (by have := R442.1 15 _ _ rfl; have := R442.1 16 _ _ rfl; have := R442.1 19 _ _ rfl; first | omega | decide | exact fun h9 => absurd (by decide) h9) (by have := R442.1 15 _ _ rfl; have := R442.1 16 _ _ rfl; have := R442.1 19 _ _ rfl; first | omega | decide | exact fun h9 => absurd (by decide) h9) (by have := R442.1 15 _ _ rfl; have := R442.1 16 _ _ rfl; have := R442.1 19 _ _ rfl; first | omega | decide | exact fun h9 => absurd (by decide) h9) (by have := R442.1 15 _ _ rfl; have := R442.1 16 _ _ rfl; have := R442.1 19 _ _ rfl; first | omega | decide | exact fun h9 => absurd (by decide) h9) (by rw [show (i6_273 + 1 : Int32).toInt.toNat = i6_273.toInt.toNat + 1 from by omega]; have := R442.1 15 _ _ rfl; have := R442.1 16 _ _ rfl; have := R442.1 19 _ _ rfl; omega) (by have := R442.1 15 _ _ rfl; have := R442.1 16 _ _ rfl; have := R442.1 19 _ _ rfl; first | omega | decide | exact fun h9 => absurd (by decide) h9) R442 K460 K461 K462 K463 (by have := R442.1 15 _ _ rfl; have := R442.1 16 _ _ rfl; have := R442.1 19 _ _ rfl; omega))
                              · refine mv_aload_n d_TrustDeskModel_fund_256 rfl rfl ?_
                                refine mv_iload d_TrustDeskModel_fund_257 rfl ?_
                                refine mv_iload_n d_TrustDeskModel_fund_259 rfl rfl ?_
                                refine mv_iload d_TrustDeskModel_fund_260 rfl ?_
                                refine mv_iconst (v := 0) d_TrustDeskModel_fund_262 (by decide) ?_
                                refine mv_iconst (v := 0) d_TrustDeskModel_fund_263 (by decide) ?_
                                refine mv_iconst (v := (-1)) d_TrustDeskModel_fund_264 (by decide) ?_
                                obtain ⟨_, b478, -⟩ := I440.1 _ _ h_q0_273
                                have b479 : (20 + v62 : Int32).toInt = (20 + v62.toInt) := mz_add2 (by decide) rfl (by have := R442.1 15 _ _ rfl; have := R442.1 16 _ _ rfl; have := R442.1 19 _ _ rfl; omega) (by have := R442.1 15 _ _ rfl; have := R442.1 16 _ _ rfl; have := R442.1 19 _ _ rfl; omega)
                                have b480 : (20 + v62 : Int32).toInt = (20 + v62.toInt) := mz_add2 (by decide) rfl (by have := R442.1 15 _ _ rfl; have := R442.1 16 _ _ rfl; have := R442.1 19 _ _ rfl; omega) (by have := R442.1 15 _ _ rfl; have := R442.1 16 _ _ rfl; have := R442.1 19 _ _ rfl; omega)
                                have b481 : (20 * (20 + v62) : Int32).toInt = (20 * (20 + v62.toInt)) := mz_mul2 (by decide) b480 (by have := R442.1 15 _ _ rfl; have := R442.1 16 _ _ rfl; have := R442.1 19 _ _ rfl; omega) (by have := R442.1 15 _ _ rfl; have := R442.1 16 _ _ rfl; have := R442.1 19 _ _ rfl; omega)
                                have b482 : ((20 * (20 + v62)) + i6_273 : Int32).toInt = ((20 * (20 + v62.toInt)) + i6_273.toInt) := mz_add2 b481 rfl (by have := R442.1 15 _ _ rfl; have := R442.1 16 _ _ rfl; have := R442.1 19 _ _ rfl; omega) (by have := R442.1 15 _ _ rfl; have := R442.1 16 _ _ rfl; have := R442.1 19 _ _ rfl; omega)
                                have : (0 : Int32).toInt = 0 := by decide
                                have : (0 : Int32).toInt = 0 := by decide
                                have : ((-1) : Int32).toInt = (-1) := by decide
                                refine mv_callV (kc' := 0) (ks' := 0) (As := [.int v62, .int (20 + v62), .int ((20 * (20 + v62)) + i6_273), .int 0, .int 0, .int (-1)]) (st9 := [.int (-1), .int 0, .int 0, .int ((20 * (20 + v62)) + i6_273), .int (20 + v62), .int v62, .ref o0]) d_TrustDeskModel_fund_265 lV_TrustDeskModel_428 b478 rfl (tc_TrustDeskModel_addEnd_x (d := (d + 26)) (x9 := x9) (o0 := o0) (x1 := v62) (x2 := (20 + v62)) (x3 := ((20 * (20 + v62)) + i6_273)) (x4 := 0) (x5 := 0) (x6 := (-1)) h_q0_273 (by have := R442.1 15 _ _ rfl; have := R442.1 16 _ _ rfl; have := R442.1 19 _ _ rfl; omega) (by have := R442.1 15 _ _ rfl; have := R442.1 16 _ _ rfl; have := R442.1 19 _ _ rfl; omega) (by have := R442.1 15 _ _ rfl; have := R442.1 16 _ _ rfl; have := R442.1 19 _ _ rfl; omega) R442 (by have := R442.1 15 _ _ rfl; have := R442.1 16 _ _ rfl; have := R442.1 19 _ _ rfl; omega) I440.start) rfl (Nat.le_of_ble_eq_true rfl) (Nat.le_of_ble_eq_true rfl) (Nat.le_of_ble_eq_true rfl) (hst := rfl) (fun b472r M473 n474 b472 => ?_)
                                obtain ⟨T475, J476, rfl, R483, f484⟩ := b472
                                have I477 := I440.call J476 (tm_sub (by decide)) (Or.inl rfl)
                                have t485 := J476.up h_q0_273
                                have z486 := (rv_c I440 J476 (I440.up h_o0) (k := 15) rfl).trans z446
                                have z487 := (rv_c I440 J476 (I440.up h_o0) (k := 16) rfl).trans z447
                                have z488 := (rv_c I440 J476 (I440.up h_o0) (k := 17) rfl).trans z448
                                have z489 := (rv_c I440 J476 (I440.up h_o0) (k := 19) rfl).trans z449
                                have z490 := (rv_c I440 J476 (I440.up h_o0) (k := 22) rfl).trans z450
                                have z491 := (rv_c I440 J476 (I440.up h_o0) (k := 24) rfl).trans z451
                                have z492 := (rv_c I440 J476 (I440.up h_o0) (k := 27) rfl).trans z452
                                have z493 := (rv_c I440 J476 (I440.up h_o0) (k := 32) rfl).trans z453
                                have z494 := (rv_c I440 J476 (I440.up h_o0) (k := 49) rfl).trans z454
                                have z495 := (ra_call I440 J476 (I440.up h_o0) (k := 5) rfl rfl rfl 44).trans z455
                                have z496 := (ra_call I440 J476 (I440.up h_o0) (k := 6) rfl rfl rfl 44).trans z456
                                have z497 := (ra_call I440 J476 (I440.up h_o0) (k := 6) rfl rfl rfl ((20 + v62).toNatClampNeg)).trans z457
                                have z498 := (ra_call I440 J476 (I440.up h_o0) (k := 37) rfl rfl rfl v62.toNatClampNeg).trans z459
                                have K499 : rP M473 o0 := K460.same (sA_c I440 J476 (I440.up h_o0) (by decide)) (sF_c I440 J476 (I440.up h_o0) (by decide))
                                have K500 : rB M473 o0 v62.toNatClampNeg := K461.add f484 (sA_c I440 J476 (I440.up h_o0) (by decide)) (sF_c I440 J476 (I440.up h_o0) (by decide)) (by have := mz_nat9 (i := v62) (by have := R442.1 15 _ _ rfl; have := R442.1 16 _ _ rfl; have := R442.1 19 _ _ rfl; omega); have := R442.1 15 _ _ rfl; have := R442.1 16 _ _ rfl; have := R442.1 19 _ _ rfl; omega)
                                have K501 : sA [7] M64 M473 o0 := K462.trans (sA_c I440 J476 (I440.up h_o0) (by decide))
                                have K502 : rC M473 o0 ((20 + v62).toNatClampNeg) := K463.add R442 f484 (by have := mz_nat9 (i := v62) (by have := R442.1 15 _ _ rfl; have := R442.1 16 _ _ rfl; have := R442.1 19 _ _ rfl; omega); have := R442.1 15 _ _ rfl; have := R442.1 16 _ _ rfl; have := R442.1 19 _ _ rfl; omega) i6_273.toInt.toNat (by have := R442.1 15 _ _ rfl; have := R442.1 16 _ _ rfl; have := R442.1 19 _ _ rfl; omega) (by have := mz_nat9 (i := i6_273) (by have := R442.1 15 _ _ rfl; have := R442.1 16 _ _ rfl; have := R442.1 19 _ _ rfl; omega); have := R442.1 15 _ _ rfl; have := R442.1 16 _ _ rfl; have := R442.1 19 _ _ rfl; omega) (by rw [show ((20 * (20 + v62)) + i6_273).toInt.toNat = ((20 * (20 + v62)) + i6_273).toNatClampNeg from by have := mz_nat9 (i := ((20 * (20 + v62)) + i6_273)) (by have := R442.1 15 _ _ rfl; have := R442.1 16 _ _ rfl; have := R442.1 19 _ _ rfl; omega); have := R442.1 15 _ _ rfl; have := R442.1 16 _ _ rfl; have := R442.1 19 _ _ rfl; omega]; omega) (sA_c I440 J476 (I440.up h_o0) (by decide)) (sF_c I440 J476 (I440.up h_o0) (by decide))
                                have := f484.2.2 v62.toNatClampNeg
                                rw [if_pos rfl] at this
                                clear z446 z447 z448 z450 z451 z452 z453 z454 z455 z456 z457 z459
                                have q503 := J476.keep h_q0_273 (by decide) (K441 _ 13 6 _ (K407 _ 13 6 _ q274))
                                have t504 := J476.up t_a275
                                have q505 := J476.keep h_q0_273 (by decide) (K441 _ 13 7 _ (K407 _ 13 7 _ q336))
                                have t506 := J476.up t_a337
                                have q507 := J476.keep h_q0_273 (by decide) (K441 _ 13 38 _ (K407 _ 13 38 _ q396))
                                have t508 := J476.up t_a397
                                have q509 := J476.keep h_q0_273 (by decide) (K441 _ 13 8 _ (K407 _ 13 8 _ q398))
                                have t510 := J476.up t_a399
                                have q511 := J476.keep h_q0_273 (by decide) (K441 _ 13 39 _ q430)
                                have t512 := J476.up t_a431
                                have q513 := J476.keep h_q0_273 (by decide) (K441 _ 13 9 _ q432)
                                have t514 := J476.up t_a433
                                refine mv_iinc (v := (i6_273 + 1)) (lv' := [(6, .int (i6_273 + 1)), (7, .int ((20 * (20 + v62)) + i6_273)), (5, .int v62), (4, .int v71), (3, .int (20 + v62)), (0, .ref o0), (1, .int x1), (2, .int x2)]) d_TrustDeskModel_fund_268 rfl rfl (by decide) rfl ?_
                                refine mv_goto (tgt := 155) d_TrustDeskModel_fund_271 (by decide) ?_
                                refine mv_locals (lv' := [(6, .int (i6_273 + 1)), (5, .int v62), (4, .int v71), (3, .int (20 + v62)), (0, .ref o0), (1, .int x1), (2, .int x2)]) (by intro q hq; simp only [List.mem_cons, List.not_mem_nil, or_false] at hq; rcases hq with rfl | rfl | rfl | rfl | rfl | rfl | rfl <;> rfl) ?_
                                have b515 : (i6_273 + 1).toInt = i6_273.toInt + 1 := mz_addn 1 1 (by decide) (by have := mz_lo i6_273; omega) (by have := mz_hi i6_273; omega)
                                exact (ih273 (i6_273 + 1) T475 M473 n474 I477 t485 (by have := R483.1 15 _ _ rfl; have := R483.1 16 _ _ rfl; have := R483.1 19 _ _ rfl; first | omega | decide | exact fun h9 => absurd (by decide) h9) (by have := R483.1 15 _ _ rfl; have := R483.1 16 _ _ rfl; have := R483.1 19 _ _ rfl; first | omega | decide | exact fun h9 => absurd (by decide) h9) (by have := R483.1 15 _ _ rfl; have := R483.1 16 _ _ rfl; have := R483.1 19 _ _ rfl; first | omega | decide | exact fun h9 => absurd (by decide) h9) (by have := R483.1 15 _ _ rfl; have := R483.1 16 _ _ rfl; have := R483.1 19 _ _ rfl; first | omega | decide | exact fun h9 => absurd (by decide) h9) (by have := R483.1 15 _ _ rfl; have := R483.1 16 _ _ rfl; have := R483.1 19 _ _ rfl; first | omega | decide | exact fun h9 => absurd (by decide) h9) (by have := R483.1 15 _ _ rfl; have := R483.1 16 _ _ rfl; have := R483.1 19 _ _ rfl; first | omega | decide | exact fun h9 => absurd (by decide) h9) (by have := R483.1 15 _ _ rfl; have := R483.1 16 _ _ rfl; have := R483.1 19 _ _ rfl; first | omega | decide | exact fun h9 => absurd (by decide) h9) (by rw [show (i6_273 + 1 : Int32).toInt.toNat = i6_273.toInt.toNat + 1 from by omega]; have := R483.1 15 _ _ rfl; have := R483.1 16 _ _ rfl; have := R483.1 19 _ _ rfl; omega) (by have := R483.1 15 _ _ rfl; have := R483.1 16 _ _ rfl; have := R483.1 19 _ _ rfl; first | omega | decide | exact fun h9 => absurd (by decide) h9) R483 K499 K500 K501 K502 (by have := R483.1 15 _ _ rfl; have := R483.1 16 _ _ rfl; have := R483.1 19 _ _ rfl; omega))
                          · refine mv_aload_n d_TrustDeskModel_fund_187 rfl rfl ?_
                            obtain ⟨a517, q516, t_a517⟩ := tm_atR I_273 h_q0_273 (k := 36) rfl
                            refine tr_getK q516 d_TrustDeskModel_fund_188 f_TrustDeskModel_76_13 ?_
                            refine mv_iload d_TrustDeskModel_fund_191 rfl ?_
                            refine mv_dup2_11 d_TrustDeskModel_fund_193 rfl rfl ?_
                            refine tr_ialdR (o := o0) (k := 36) I_273 q516 t_a517 (by decide) d_TrustDeskModel_fund_194 (vp_in_iff.mpr (by have := kKR_273.1 15 _ _ rfl; have := kKR_273.1 16 _ _ rfl; have := kKR_273.1 19 _ _ rfl; omega)) (fun v518 e519 => ?_)
                            refine mv_aload_n d_TrustDeskModel_fund_195 rfl rfl ?_
                            obtain ⟨a521, q520, t_a521⟩ := tm_atR I_273 h_q0_273 (k := 8) rfl
                            refine tr_getK q520 d_TrustDeskModel_fund_196 f_TrustDeskModel_29_13 ?_
                            refine mv_iload d_TrustDeskModel_fund_199 rfl ?_
                            have b522 : (20 + v62 : Int32).toInt = (20 + v62.toInt) := mz_add2 (by decide) rfl (by have := kKR_273.1 15 _ _ rfl; have := kKR_273.1 16 _ _ rfl; have := kKR_273.1 19 _ _ rfl; omega) (by have := kKR_273.1 15 _ _ rfl; have := kKR_273.1 16 _ _ rfl; have := kKR_273.1 19 _ _ rfl; omega)
                            have b523 : (20 * (20 + v62) : Int32).toInt = (20 * (20 + v62.toInt)) := mz_mul2 (by decide) b522 (by have := kKR_273.1 15 _ _ rfl; have := kKR_273.1 16 _ _ rfl; have := kKR_273.1 19 _ _ rfl; omega) (by have := kKR_273.1 15 _ _ rfl; have := kKR_273.1 16 _ _ rfl; have := kKR_273.1 19 _ _ rfl; omega)
                            have b524 : ((20 * (20 + v62)) + i6_273 : Int32).toInt = ((20 * (20 + v62.toInt)) + i6_273.toInt) := mz_add2 b523 rfl (by have := kKR_273.1 15 _ _ rfl; have := kKR_273.1 16 _ _ rfl; have := kKR_273.1 19 _ _ rfl; omega) (by have := kKR_273.1 15 _ _ rfl; have := kKR_273.1 16 _ _ rfl; have := kKR_273.1 19 _ _ rfl; omega)
                            refine tr_ialdR (o := o0) (k := 8) I_273 q520 t_a521 (by decide) d_TrustDeskModel_fund_201 (vp_in_iff.mpr (by have := kKR_273.1 15 _ _ rfl; have := kKR_273.1 16 _ _ rfl; have := kKR_273.1 19 _ _ rfl; omega)) (fun v525 e526 => ?_)
                            have := kKR_273.a (k := 8) rfl (((20 * (20 + v62)) + i6_273) : Int32).toNatClampNeg
                            refine mv_ior d_TrustDeskModel_fund_202 ?_
                            refine tr_iastR (k := 36) I_273 kKR_273 (I_273.up h_o0) q516 t_a517 (by decide) (by decide) (fun lo hi h => by cases h) (Or.inl (by decide)) d_TrustDeskModel_fund_203 (vp_in_iff.mpr (by have := kKR_273.1 15 _ _ rfl; have := kKR_273.1 16 _ _ rfl; have := kKR_273.1 19 _ _ rfl; omega)) (fun M527 I528 K529 R530 E531 A532 V533 => ?_)
                            have z534 := (V533 15)
                            have z535 := (V533 16)
                            have z536 := (V533 17)
                            have z537 := (V533 19)
                            have z538 := (V533 22)
                            have z539 := (V533 24)
                            have z540 := (V533 27)
                            have z541 := (V533 32)
                            have z542 := (V533 49)
                            have z543 := (A532 5 (by decide) rfl 44)
                            have z544 := (A532 6 (by decide) rfl 44)
                            have z545 := (A532 6 (by decide) rfl ((20 + v62).toNatClampNeg))
                            have z546 := (A532 43 (by decide) rfl v62.toNatClampNeg)
                            have z547 := (A532 37 (by decide) rfl v62.toNatClampNeg)
                            have K548 : rP M527 o0 := kKP_273.same (sA_a A532 (by decide)) (sF_a V533)
                            have K549 : rB M527 o0 v62.toNatClampNeg := kKB_273.same (sA_a A532 (by decide)) (sF_a V533)
                            have K550 : sA [7] M64 M527 o0 := kKY_273.trans (sA_a A532 (by decide))
                            have K551 : rC M527 o0 ((20 + v62).toNatClampNeg) := kKC_273.same (sA_a A532 (by decide)) (sF_a V533)
                            refine mv_aload_n d_TrustDeskModel_fund_204 rfl rfl ?_
                            refine tr_getK (k := 7) (K529 _ 13 7 _ q336) d_TrustDeskModel_fund_205 f_TrustDeskModel_26_13 ?_
                            refine mv_iload d_TrustDeskModel_fund_208 rfl ?_
                            have b552 : (20 + v62 : Int32).toInt = (20 + v62.toInt) := mz_add2 (by decide) rfl (by have := R530.1 15 _ _ rfl; have := R530.1 16 _ _ rfl; have := R530.1 19 _ _ rfl; omega) (by have := R530.1 15 _ _ rfl; have := R530.1 16 _ _ rfl; have := R530.1 19 _ _ rfl; omega)
                            have b553 : (20 * (20 + v62) : Int32).toInt = (20 * (20 + v62.toInt)) := mz_mul2 (by decide) b552 (by have := R530.1 15 _ _ rfl; have := R530.1 16 _ _ rfl; have := R530.1 19 _ _ rfl; omega) (by have := R530.1 15 _ _ rfl; have := R530.1 16 _ _ rfl; have := R530.1 19 _ _ rfl; omega)
                            have b554 : ((20 * (20 + v62)) + i6_273 : Int32).toInt = ((20 * (20 + v62.toInt)) + i6_273.toInt) := mz_add2 b553 rfl (by have := R530.1 15 _ _ rfl; have := R530.1 16 _ _ rfl; have := R530.1 19 _ _ rfl; omega) (by have := R530.1 15 _ _ rfl; have := R530.1 16 _ _ rfl; have := R530.1 19 _ _ rfl; omega)
                            refine tr_ialdR (o := o0) (k := 7) I528 (K529 _ 13 7 _ q336) t_a337 (by decide) d_TrustDeskModel_fund_210 (vp_in_iff.mpr (by have := R530.1 15 _ _ rfl; have := R530.1 16 _ _ rfl; have := R530.1 19 _ _ rfl; omega)) (fun v555 e556 => ?_)
                            have h557 : ((20 * (20 + v62)) + i6_273).toNatClampNeg = 20 * (20 + v62).toNatClampNeg + i6_273.toInt.toNat := by have := mz_nat9 (i := ((20 * (20 + v62)) + i6_273)) (by have := R530.1 15 _ _ rfl; have := R530.1 16 _ _ rfl; have := R530.1 19 _ _ rfl; omega); have := mz_nat9 (i := (20 + v62)) (by have := R530.1 15 _ _ rfl; have := R530.1 16 _ _ rfl; have := R530.1 19 _ _ rfl; omega); have := R530.1 15 _ _ rfl; have := R530.1 16 _ _ rfl; have := R530.1 19 _ _ rfl; omega
                            have : v555.toInt = ra M64 o0 7 (20 * (20 + v62).toNatClampNeg + i6_273.toInt.toNat) := by have e9 := K550 7 rfl; rw [← e9, e556, h557]
                            refine mv_bipush (v := 9) d_TrustDeskModel_fund_211 (by decide) ?_
                            have := mz_hi v555
                            refine mv_icmp_neZ (tgt := 244) (a := v555.toInt) (b := 9) d_TrustDeskModel_fund_213 (by decide) rfl (by decide) (fun b558 => ?_) (fun b558 => ?_)
                            · refine mv_aload_n d_TrustDeskModel_fund_244 rfl rfl ?_
                              refine tr_getK (k := 7) (K529 _ 13 7 _ q336) d_TrustDeskModel_fund_245 f_TrustDeskModel_26_13 ?_
                              refine mv_iload d_TrustDeskModel_fund_248 rfl ?_
                              have b559 : (20 + v62 : Int32).toInt = (20 + v62.toInt) := mz_add2 (by decide) rfl (by have := R530.1 15 _ _ rfl; have := R530.1 16 _ _ rfl; have := R530.1 19 _ _ rfl; omega) (by have := R530.1 15 _ _ rfl; have := R530.1 16 _ _ rfl; have := R530.1 19 _ _ rfl; omega)
                              have b560 : (20 * (20 + v62) : Int32).toInt = (20 * (20 + v62.toInt)) := mz_mul2 (by decide) b559 (by have := R530.1 15 _ _ rfl; have := R530.1 16 _ _ rfl; have := R530.1 19 _ _ rfl; omega) (by have := R530.1 15 _ _ rfl; have := R530.1 16 _ _ rfl; have := R530.1 19 _ _ rfl; omega)
                              have b561 : ((20 * (20 + v62)) + i6_273 : Int32).toInt = ((20 * (20 + v62.toInt)) + i6_273.toInt) := mz_add2 b560 rfl (by have := R530.1 15 _ _ rfl; have := R530.1 16 _ _ rfl; have := R530.1 19 _ _ rfl; omega) (by have := R530.1 15 _ _ rfl; have := R530.1 16 _ _ rfl; have := R530.1 19 _ _ rfl; omega)
                              refine tr_ialdR (o := o0) (k := 7) I528 (K529 _ 13 7 _ q336) t_a337 (by decide) d_TrustDeskModel_fund_250 (vp_in_iff.mpr (by have := R530.1 15 _ _ rfl; have := R530.1 16 _ _ rfl; have := R530.1 19 _ _ rfl; omega)) (fun v562 e563 => ?_)
                              have h564 : ((20 * (20 + v62)) + i6_273).toNatClampNeg = 20 * (20 + v62).toNatClampNeg + i6_273.toInt.toNat := by have := mz_nat9 (i := ((20 * (20 + v62)) + i6_273)) (by have := R530.1 15 _ _ rfl; have := R530.1 16 _ _ rfl; have := R530.1 19 _ _ rfl; omega); have := mz_nat9 (i := (20 + v62)) (by have := R530.1 15 _ _ rfl; have := R530.1 16 _ _ rfl; have := R530.1 19 _ _ rfl; omega); have := R530.1 15 _ _ rfl; have := R530.1 16 _ _ rfl; have := R530.1 19 _ _ rfl; omega
                              have : v562.toInt = ra M64 o0 7 (20 * (20 + v62).toNatClampNeg + i6_273.toInt.toNat) := by have e9 := K550 7 rfl; rw [← e9, e563, h564]
                              refine mv_bipush (v := 8) d_TrustDeskModel_fund_251 (by decide) ?_
                              have := mz_hi v562
                              refine mv_icmp_neZ (tgt := 268) (a := v562.toInt) (b := 8) d_TrustDeskModel_fund_253 (by decide) rfl (by decide) (fun b565 => ?_) (fun b565 => ?_)
                              · refine mv_iinc (v := (i6_273 + 1)) (lv' := [(6, .int (i6_273 + 1)), (7, .int ((20 * (20 + v62)) + i6_273)), (5, .int v62), (4, .int v71), (3, .int (20 + v62)), (0, .ref o0), (1, .int x1), (2, .int x2)]) d_TrustDeskModel_fund_268 rfl rfl (by decide) rfl ?_
                                refine mv_goto (tgt := 155) d_TrustDeskModel_fund_271 (by decide) ?_
                                refine mv_locals (lv' := [(6, .int (i6_273 + 1)), (5, .int v62), (4, .int v71), (3, .int (20 + v62)), (0, .ref o0), (1, .int x1), (2, .int x2)]) (by intro q hq; simp only [List.mem_cons, List.not_mem_nil, or_false] at hq; rcases hq with rfl | rfl | rfl | rfl | rfl | rfl | rfl <;> rfl) ?_
                                have b566 : (i6_273 + 1).toInt = i6_273.toInt + 1 := mz_addn 1 1 (by decide) (by have := mz_lo i6_273; omega) (by have := mz_hi i6_273; omega)
                                exact (ih273 (i6_273 + 1) T_273 M527 n_273 I528 h_q0_273 (by have := R530.1 15 _ _ rfl; have := R530.1 16 _ _ rfl; have := R530.1 19 _ _ rfl; first | omega | decide | exact fun h9 => absurd (by decide) h9) (by have := R530.1 15 _ _ rfl; have := R530.1 16 _ _ rfl; have := R530.1 19 _ _ rfl; first | omega | decide | exact fun h9 => absurd (by decide) h9) (by have := R530.1 15 _ _ rfl; have := R530.1 16 _ _ rfl; have := R530.1 19 _ _ rfl; first | omega | decide | exact fun h9 => absurd (by decide) h9) (by have := R530.1 15 _ _ rfl; have := R530.1 16 _ _ rfl; have := R530.1 19 _ _ rfl; first | omega | decide | exact fun h9 => absurd (by decide) h9) (by have := R530.1 15 _ _ rfl; have := R530.1 16 _ _ rfl; have := R530.1 19 _ _ rfl; first | omega | decide | exact fun h9 => absurd (by decide) h9) (by have := R530.1 15 _ _ rfl; have := R530.1 16 _ _ rfl; have := R530.1 19 _ _ rfl; first | omega | decide | exact fun h9 => absurd (by decide) h9) (by have := R530.1 15 _ _ rfl; have := R530.1 16 _ _ rfl; have := R530.1 19 _ _ rfl; first | omega | decide | exact fun h9 => absurd (by decide) h9) (by rw [show (i6_273 + 1 : Int32).toInt.toNat = i6_273.toInt.toNat + 1 from by omega]; have := R530.1 15 _ _ rfl; have := R530.1 16 _ _ rfl; have := R530.1 19 _ _ rfl; omega) (by have := R530.1 15 _ _ rfl; have := R530.1 16 _ _ rfl; have := R530.1 19 _ _ rfl; first | omega | decide | exact fun h9 => absurd (by decide) h9) R530 K548 K549 K550 K551 (by have := R530.1 15 _ _ rfl; have := R530.1 16 _ _ rfl; have := R530.1 19 _ _ rfl; omega))
                              · refine mv_aload_n d_TrustDeskModel_fund_256 rfl rfl ?_
                                refine mv_iload d_TrustDeskModel_fund_257 rfl ?_
                                refine mv_iload_n d_TrustDeskModel_fund_259 rfl rfl ?_
                                refine mv_iload d_TrustDeskModel_fund_260 rfl ?_
                                refine mv_iconst (v := 0) d_TrustDeskModel_fund_262 (by decide) ?_
                                refine mv_iconst (v := 0) d_TrustDeskModel_fund_263 (by decide) ?_
                                refine mv_iconst (v := (-1)) d_TrustDeskModel_fund_264 (by decide) ?_
                                obtain ⟨_, b573, -⟩ := I528.1 _ _ h_q0_273
                                have b574 : (20 + v62 : Int32).toInt = (20 + v62.toInt) := mz_add2 (by decide) rfl (by have := R530.1 15 _ _ rfl; have := R530.1 16 _ _ rfl; have := R530.1 19 _ _ rfl; omega) (by have := R530.1 15 _ _ rfl; have := R530.1 16 _ _ rfl; have := R530.1 19 _ _ rfl; omega)
                                have b575 : (20 + v62 : Int32).toInt = (20 + v62.toInt) := mz_add2 (by decide) rfl (by have := R530.1 15 _ _ rfl; have := R530.1 16 _ _ rfl; have := R530.1 19 _ _ rfl; omega) (by have := R530.1 15 _ _ rfl; have := R530.1 16 _ _ rfl; have := R530.1 19 _ _ rfl; omega)
                                have b576 : (20 * (20 + v62) : Int32).toInt = (20 * (20 + v62.toInt)) := mz_mul2 (by decide) b575 (by have := R530.1 15 _ _ rfl; have := R530.1 16 _ _ rfl; have := R530.1 19 _ _ rfl; omega) (by have := R530.1 15 _ _ rfl; have := R530.1 16 _ _ rfl; have := R530.1 19 _ _ rfl; omega)
                                have b577 : ((20 * (20 + v62)) + i6_273 : Int32).toInt = ((20 * (20 + v62.toInt)) + i6_273.toInt) := mz_add2 b576 rfl (by have := R530.1 15 _ _ rfl; have := R530.1 16 _ _ rfl; have := R530.1 19 _ _ rfl; omega) (by have := R530.1 15 _ _ rfl; have := R530.1 16 _ _ rfl; have := R530.1 19 _ _ rfl; omega)
                                have : (0 : Int32).toInt = 0 := by decide
                                have : (0 : Int32).toInt = 0 := by decide
                                have : ((-1) : Int32).toInt = (-1) := by decide
                                refine mv_callV (kc' := 0) (ks' := 0) (As := [.int v62, .int (20 + v62), .int ((20 * (20 + v62)) + i6_273), .int 0, .int 0, .int (-1)]) (st9 := [.int (-1), .int 0, .int 0, .int ((20 * (20 + v62)) + i6_273), .int (20 + v62), .int v62, .ref o0]) d_TrustDeskModel_fund_265 lV_TrustDeskModel_428 b573 rfl (tc_TrustDeskModel_addEnd_x (d := (d + 26)) (x9 := x9) (o0 := o0) (x1 := v62) (x2 := (20 + v62)) (x3 := ((20 * (20 + v62)) + i6_273)) (x4 := 0) (x5 := 0) (x6 := (-1)) h_q0_273 (by have := R530.1 15 _ _ rfl; have := R530.1 16 _ _ rfl; have := R530.1 19 _ _ rfl; omega) (by have := R530.1 15 _ _ rfl; have := R530.1 16 _ _ rfl; have := R530.1 19 _ _ rfl; omega) (by have := R530.1 15 _ _ rfl; have := R530.1 16 _ _ rfl; have := R530.1 19 _ _ rfl; omega) R530 (by have := R530.1 15 _ _ rfl; have := R530.1 16 _ _ rfl; have := R530.1 19 _ _ rfl; omega) I528.start) rfl (Nat.le_of_ble_eq_true rfl) (Nat.le_of_ble_eq_true rfl) (Nat.le_of_ble_eq_true rfl) (hst := rfl) (fun b567r M568 n569 b567 => ?_)
                                obtain ⟨T570, J571, rfl, R578, f579⟩ := b567
                                have I572 := I528.call J571 (tm_sub (by decide)) (Or.inl rfl)
                                have t580 := J571.up h_q0_273
                                have z581 := (rv_c I528 J571 (I528.up h_o0) (k := 15) rfl).trans z534
                                have z582 := (rv_c I528 J571 (I528.up h_o0) (k := 16) rfl).trans z535
                                have z583 := (rv_c I528 J571 (I528.up h_o0) (k := 17) rfl).trans z536
                                have z584 := (rv_c I528 J571 (I528.up h_o0) (k := 19) rfl).trans z537
                                have z585 := (rv_c I528 J571 (I528.up h_o0) (k := 22) rfl).trans z538
                                have z586 := (rv_c I528 J571 (I528.up h_o0) (k := 24) rfl).trans z539
                                have z587 := (rv_c I528 J571 (I528.up h_o0) (k := 27) rfl).trans z540
                                have z588 := (rv_c I528 J571 (I528.up h_o0) (k := 32) rfl).trans z541
                                have z589 := (rv_c I528 J571 (I528.up h_o0) (k := 49) rfl).trans z542
                                have z590 := (ra_call I528 J571 (I528.up h_o0) (k := 5) rfl rfl rfl 44).trans z543
                                have z591 := (ra_call I528 J571 (I528.up h_o0) (k := 6) rfl rfl rfl 44).trans z544
                                have z592 := (ra_call I528 J571 (I528.up h_o0) (k := 6) rfl rfl rfl ((20 + v62).toNatClampNeg)).trans z545
                                have z593 := (ra_call I528 J571 (I528.up h_o0) (k := 37) rfl rfl rfl v62.toNatClampNeg).trans z547
                                have K594 : rP M568 o0 := K548.same (sA_c I528 J571 (I528.up h_o0) (by decide)) (sF_c I528 J571 (I528.up h_o0) (by decide))
                                have K595 : rB M568 o0 v62.toNatClampNeg := K549.add f579 (sA_c I528 J571 (I528.up h_o0) (by decide)) (sF_c I528 J571 (I528.up h_o0) (by decide)) (by have := mz_nat9 (i := v62) (by have := R530.1 15 _ _ rfl; have := R530.1 16 _ _ rfl; have := R530.1 19 _ _ rfl; omega); have := R530.1 15 _ _ rfl; have := R530.1 16 _ _ rfl; have := R530.1 19 _ _ rfl; omega)
                                have K596 : sA [7] M64 M568 o0 := K550.trans (sA_c I528 J571 (I528.up h_o0) (by decide))
                                have K597 : rC M568 o0 ((20 + v62).toNatClampNeg) := K551.add R530 f579 (by have := mz_nat9 (i := v62) (by have := R530.1 15 _ _ rfl; have := R530.1 16 _ _ rfl; have := R530.1 19 _ _ rfl; omega); have := R530.1 15 _ _ rfl; have := R530.1 16 _ _ rfl; have := R530.1 19 _ _ rfl; omega) i6_273.toInt.toNat (by have := R530.1 15 _ _ rfl; have := R530.1 16 _ _ rfl; have := R530.1 19 _ _ rfl; omega) (by have := mz_nat9 (i := i6_273) (by have := R530.1 15 _ _ rfl; have := R530.1 16 _ _ rfl; have := R530.1 19 _ _ rfl; omega); have := R530.1 15 _ _ rfl; have := R530.1 16 _ _ rfl; have := R530.1 19 _ _ rfl; omega) (by rw [show ((20 * (20 + v62)) + i6_273).toInt.toNat = ((20 * (20 + v62)) + i6_273).toNatClampNeg from by have := mz_nat9 (i := ((20 * (20 + v62)) + i6_273)) (by have := R530.1 15 _ _ rfl; have := R530.1 16 _ _ rfl; have := R530.1 19 _ _ rfl; omega); have := R530.1 15 _ _ rfl; have := R530.1 16 _ _ rfl; have := R530.1 19 _ _ rfl; omega]; omega) (sA_c I528 J571 (I528.up h_o0) (by decide)) (sF_c I528 J571 (I528.up h_o0) (by decide))
                                have := f579.2.2 v62.toNatClampNeg
                                rw [if_pos rfl] at this
                                clear z534 z535 z536 z538 z539 z540 z541 z542 z543 z544 z545 z547
                                have q598 := J571.keep h_q0_273 (by decide) (K529 _ 13 6 _ q274)
                                have t599 := J571.up t_a275
                                have q600 := J571.keep h_q0_273 (by decide) (K529 _ 13 7 _ q336)
                                have t601 := J571.up t_a337
                                have q602 := J571.keep h_q0_273 (by decide) (K529 _ 13 36 _ q516)
                                have t603 := J571.up t_a517
                                have q604 := J571.keep h_q0_273 (by decide) (K529 _ 13 8 _ q520)
                                have t605 := J571.up t_a521
                                refine mv_iinc (v := (i6_273 + 1)) (lv' := [(6, .int (i6_273 + 1)), (7, .int ((20 * (20 + v62)) + i6_273)), (5, .int v62), (4, .int v71), (3, .int (20 + v62)), (0, .ref o0), (1, .int x1), (2, .int x2)]) d_TrustDeskModel_fund_268 rfl rfl (by decide) rfl ?_
                                refine mv_goto (tgt := 155) d_TrustDeskModel_fund_271 (by decide) ?_
                                refine mv_locals (lv' := [(6, .int (i6_273 + 1)), (5, .int v62), (4, .int v71), (3, .int (20 + v62)), (0, .ref o0), (1, .int x1), (2, .int x2)]) (by intro q hq; simp only [List.mem_cons, List.not_mem_nil, or_false] at hq; rcases hq with rfl | rfl | rfl | rfl | rfl | rfl | rfl <;> rfl) ?_
                                have b606 : (i6_273 + 1).toInt = i6_273.toInt + 1 := mz_addn 1 1 (by decide) (by have := mz_lo i6_273; omega) (by have := mz_hi i6_273; omega)
                                exact (ih273 (i6_273 + 1) T570 M568 n569 I572 t580 (by have := R578.1 15 _ _ rfl; have := R578.1 16 _ _ rfl; have := R578.1 19 _ _ rfl; first | omega | decide | exact fun h9 => absurd (by decide) h9) (by have := R578.1 15 _ _ rfl; have := R578.1 16 _ _ rfl; have := R578.1 19 _ _ rfl; first | omega | decide | exact fun h9 => absurd (by decide) h9) (by have := R578.1 15 _ _ rfl; have := R578.1 16 _ _ rfl; have := R578.1 19 _ _ rfl; first | omega | decide | exact fun h9 => absurd (by decide) h9) (by have := R578.1 15 _ _ rfl; have := R578.1 16 _ _ rfl; have := R578.1 19 _ _ rfl; first | omega | decide | exact fun h9 => absurd (by decide) h9) (by have := R578.1 15 _ _ rfl; have := R578.1 16 _ _ rfl; have := R578.1 19 _ _ rfl; first | omega | decide | exact fun h9 => absurd (by decide) h9) (by have := R578.1 15 _ _ rfl; have := R578.1 16 _ _ rfl; have := R578.1 19 _ _ rfl; first | omega | decide | exact fun h9 => absurd (by decide) h9) (by have := R578.1 15 _ _ rfl; have := R578.1 16 _ _ rfl; have := R578.1 19 _ _ rfl; first | omega | decide | exact fun h9 => absurd (by decide) h9) (by rw [show (i6_273 + 1 : Int32).toInt.toNat = i6_273.toInt.toNat + 1 from by omega]; have := R578.1 15 _ _ rfl; have := R578.1 16 _ _ rfl; have := R578.1 19 _ _ rfl; omega) (by have := R578.1 15 _ _ rfl; have := R578.1 16 _ _ rfl; have := R578.1 19 _ _ rfl; first | omega | decide | exact fun h9 => absurd (by decide) h9) R578 K594 K595 K596 K597 (by have := R578.1 15 _ _ rfl; have := R578.1 16 _ _ rfl; have := R578.1 19 _ _ rfl; omega))
                            · refine mv_aload_n d_TrustDeskModel_fund_216 rfl rfl ?_
                              obtain ⟨a608, q607, t_a608⟩ := tm_atR I528 h_q0_273 (k := 38) rfl
                              refine tr_getK q607 d_TrustDeskModel_fund_217 f_TrustDeskModel_82_13 ?_
                              refine mv_iload d_TrustDeskModel_fund_220 rfl ?_
                              refine mv_aload_n d_TrustDeskModel_fund_222 rfl rfl ?_
                              refine tr_getK (k := 8) (K529 _ 13 8 _ q520) d_TrustDeskModel_fund_223 f_TrustDeskModel_29_13 ?_
                              refine mv_iload d_TrustDeskModel_fund_226 rfl ?_
                              have b609 : (20 + v62 : Int32).toInt = (20 + v62.toInt) := mz_add2 (by decide) rfl (by have := R530.1 15 _ _ rfl; have := R530.1 16 _ _ rfl; have := R530.1 19 _ _ rfl; omega) (by have := R530.1 15 _ _ rfl; have := R530.1 16 _ _ rfl; have := R530.1 19 _ _ rfl; omega)
                              have b610 : (20 * (20 + v62) : Int32).toInt = (20 * (20 + v62.toInt)) := mz_mul2 (by decide) b609 (by have := R530.1 15 _ _ rfl; have := R530.1 16 _ _ rfl; have := R530.1 19 _ _ rfl; omega) (by have := R530.1 15 _ _ rfl; have := R530.1 16 _ _ rfl; have := R530.1 19 _ _ rfl; omega)
                              have b611 : ((20 * (20 + v62)) + i6_273 : Int32).toInt = ((20 * (20 + v62.toInt)) + i6_273.toInt) := mz_add2 b610 rfl (by have := R530.1 15 _ _ rfl; have := R530.1 16 _ _ rfl; have := R530.1 19 _ _ rfl; omega) (by have := R530.1 15 _ _ rfl; have := R530.1 16 _ _ rfl; have := R530.1 19 _ _ rfl; omega)
                              refine tr_ialdR (o := o0) (k := 8) I528 (K529 _ 13 8 _ q520) t_a521 (by decide) d_TrustDeskModel_fund_228 (vp_in_iff.mpr (by have := R530.1 15 _ _ rfl; have := R530.1 16 _ _ rfl; have := R530.1 19 _ _ rfl; omega)) (fun v612 e613 => ?_)
                              have := R530.a (k := 8) rfl (((20 * (20 + v62)) + i6_273) : Int32).toNatClampNeg
                              refine tr_iastR (k := 38) I528 R530 (I528.up h_o0) q607 t_a608 (by decide) (by decide) (fun lo hi h => by cases h) (Or.inl (by decide)) d_TrustDeskModel_fund_229 (vp_in_iff.mpr (by have := R530.1 15 _ _ rfl; have := R530.1 16 _ _ rfl; have := R530.1 19 _ _ rfl; omega)) (fun M614 I615 K616 R617 E618 A619 V620 => ?_)
                              have z621 := (V620 15).trans z534
                              have z622 := (V620 16).trans z535
                              have z623 := (V620 17).trans z536
                              have z624 := (V620 19).trans z537
                              have z625 := (V620 22).trans z538
                              have z626 := (V620 24).trans z539
                              have z627 := (V620 27).trans z540
                              have z628 := (V620 32).trans z541
                              have z629 := (V620 49).trans z542
                              have z630 := (A619 5 (by decide) rfl 44).trans z543
                              have z631 := (A619 6 (by decide) rfl 44).trans z544
                              have z632 := (A619 6 (by decide) rfl ((20 + v62).toNatClampNeg)).trans z545
                              have z633 := (A619 43 (by decide) rfl v62.toNatClampNeg).trans z546
                              have z634 := (A619 37 (by decide) rfl v62.toNatClampNeg).trans z547
                              have K635 : rP M614 o0 := K548.same (sA_a A619 (by decide)) (sF_a V620)
                              have K636 : rB M614 o0 v62.toNatClampNeg := K549.same (sA_a A619 (by decide)) (sF_a V620)
                              have K637 : sA [7] M64 M614 o0 := K550.trans (sA_a A619 (by decide))
                              have K638 : rC M614 o0 ((20 + v62).toNatClampNeg) := K551.same (sA_a A619 (by decide)) (sF_a V620)
                              clear z534 z535 z536 z538 z539 z540 z541 z542 z543 z544 z545 z546 z547
                              refine mv_aload_n d_TrustDeskModel_fund_230 rfl rfl ?_
                              obtain ⟨a640, q639, t_a640⟩ := tm_atR I615 h_q0_273 (k := 39) rfl
                              refine tr_getK q639 d_TrustDeskModel_fund_231 f_TrustDeskModel_85_13 ?_
                              refine mv_iload d_TrustDeskModel_fund_234 rfl ?_
                              refine mv_aload_n d_TrustDeskModel_fund_236 rfl rfl ?_
                              obtain ⟨a642, q641, t_a642⟩ := tm_atR I615 h_q0_273 (k := 9) rfl
                              refine tr_getK q641 d_TrustDeskModel_fund_237 f_TrustDeskModel_32_13 ?_
                              refine mv_iload d_TrustDeskModel_fund_240 rfl ?_
                              have b643 : (20 + v62 : Int32).toInt = (20 + v62.toInt) := mz_add2 (by decide) rfl (by have := R617.1 15 _ _ rfl; have := R617.1 16 _ _ rfl; have := R617.1 19 _ _ rfl; omega) (by have := R617.1 15 _ _ rfl; have := R617.1 16 _ _ rfl; have := R617.1 19 _ _ rfl; omega)
                              have b644 : (20 * (20 + v62) : Int32).toInt = (20 * (20 + v62.toInt)) := mz_mul2 (by decide) b643 (by have := R617.1 15 _ _ rfl; have := R617.1 16 _ _ rfl; have := R617.1 19 _ _ rfl; omega) (by have := R617.1 15 _ _ rfl; have := R617.1 16 _ _ rfl; have := R617.1 19 _ _ rfl; omega)
                              have b645 : ((20 * (20 + v62)) + i6_273 : Int32).toInt = ((20 * (20 + v62.toInt)) + i6_273.toInt) := mz_add2 b644 rfl (by have := R617.1 15 _ _ rfl; have := R617.1 16 _ _ rfl; have := R617.1 19 _ _ rfl; omega) (by have := R617.1 15 _ _ rfl; have := R617.1 16 _ _ rfl; have := R617.1 19 _ _ rfl; omega)
                              refine tr_ialdR (o := o0) (k := 9) I615 q641 t_a642 (by decide) d_TrustDeskModel_fund_242 (vp_in_iff.mpr (by have := R617.1 15 _ _ rfl; have := R617.1 16 _ _ rfl; have := R617.1 19 _ _ rfl; omega)) (fun v646 e647 => ?_)
                              refine tr_iastR (k := 39) I615 R617 (I615.up h_o0) q639 t_a640 (by decide) (by decide) (fun lo hi h => by cases h) (Or.inl (by decide)) d_TrustDeskModel_fund_243 (vp_in_iff.mpr (by have := R617.1 15 _ _ rfl; have := R617.1 16 _ _ rfl; have := R617.1 19 _ _ rfl; omega)) (fun M648 I649 K650 R651 E652 A653 V654 => ?_)
                              have z655 := (V654 15).trans z621
                              have z656 := (V654 16).trans z622
                              have z657 := (V654 17).trans z623
                              have z658 := (V654 19).trans z624
                              have z659 := (V654 22).trans z625
                              have z660 := (V654 24).trans z626
                              have z661 := (V654 27).trans z627
                              have z662 := (V654 32).trans z628
                              have z663 := (V654 49).trans z629
                              have z664 := (A653 5 (by decide) rfl 44).trans z630
                              have z665 := (A653 6 (by decide) rfl 44).trans z631
                              have z666 := (A653 6 (by decide) rfl ((20 + v62).toNatClampNeg)).trans z632
                              have z667 := (A653 43 (by decide) rfl v62.toNatClampNeg).trans z633
                              have z668 := (A653 37 (by decide) rfl v62.toNatClampNeg).trans z634
                              have K669 : rP M648 o0 := K635.same (sA_a A653 (by decide)) (sF_a V654)
                              have K670 : rB M648 o0 v62.toNatClampNeg := K636.same (sA_a A653 (by decide)) (sF_a V654)
                              have K671 : sA [7] M64 M648 o0 := K637.trans (sA_a A653 (by decide))
                              have K672 : rC M648 o0 ((20 + v62).toNatClampNeg) := K638.same (sA_a A653 (by decide)) (sF_a V654)
                              clear z621 z622 z623 z625 z626 z627 z628 z629 z630 z631 z632 z633 z634
                              refine mv_aload_n d_TrustDeskModel_fund_244 rfl rfl ?_
                              refine tr_getK (k := 7) (K650 _ 13 7 _ (K616 _ 13 7 _ (K529 _ 13 7 _ q336))) d_TrustDeskModel_fund_245 f_TrustDeskModel_26_13 ?_
                              refine mv_iload d_TrustDeskModel_fund_248 rfl ?_
                              have b673 : (20 + v62 : Int32).toInt = (20 + v62.toInt) := mz_add2 (by decide) rfl (by have := R651.1 15 _ _ rfl; have := R651.1 16 _ _ rfl; have := R651.1 19 _ _ rfl; omega) (by have := R651.1 15 _ _ rfl; have := R651.1 16 _ _ rfl; have := R651.1 19 _ _ rfl; omega)
                              have b674 : (20 * (20 + v62) : Int32).toInt = (20 * (20 + v62.toInt)) := mz_mul2 (by decide) b673 (by have := R651.1 15 _ _ rfl; have := R651.1 16 _ _ rfl; have := R651.1 19 _ _ rfl; omega) (by have := R651.1 15 _ _ rfl; have := R651.1 16 _ _ rfl; have := R651.1 19 _ _ rfl; omega)
                              have b675 : ((20 * (20 + v62)) + i6_273 : Int32).toInt = ((20 * (20 + v62.toInt)) + i6_273.toInt) := mz_add2 b674 rfl (by have := R651.1 15 _ _ rfl; have := R651.1 16 _ _ rfl; have := R651.1 19 _ _ rfl; omega) (by have := R651.1 15 _ _ rfl; have := R651.1 16 _ _ rfl; have := R651.1 19 _ _ rfl; omega)
                              refine tr_ialdR (o := o0) (k := 7) I649 (K650 _ 13 7 _ (K616 _ 13 7 _ (K529 _ 13 7 _ q336))) t_a337 (by decide) d_TrustDeskModel_fund_250 (vp_in_iff.mpr (by have := R651.1 15 _ _ rfl; have := R651.1 16 _ _ rfl; have := R651.1 19 _ _ rfl; omega)) (fun v676 e677 => ?_)
                              have h678 : ((20 * (20 + v62)) + i6_273).toNatClampNeg = 20 * (20 + v62).toNatClampNeg + i6_273.toInt.toNat := by have := mz_nat9 (i := ((20 * (20 + v62)) + i6_273)) (by have := R651.1 15 _ _ rfl; have := R651.1 16 _ _ rfl; have := R651.1 19 _ _ rfl; omega); have := mz_nat9 (i := (20 + v62)) (by have := R651.1 15 _ _ rfl; have := R651.1 16 _ _ rfl; have := R651.1 19 _ _ rfl; omega); have := R651.1 15 _ _ rfl; have := R651.1 16 _ _ rfl; have := R651.1 19 _ _ rfl; omega
                              have : v676.toInt = ra M64 o0 7 (20 * (20 + v62).toNatClampNeg + i6_273.toInt.toNat) := by have e9 := K671 7 rfl; rw [← e9, e677, h678]
                              refine mv_bipush (v := 8) d_TrustDeskModel_fund_251 (by decide) ?_
                              have := mz_hi v676
                              refine mv_icmp_neZ (tgt := 268) (a := v676.toInt) (b := 8) d_TrustDeskModel_fund_253 (by decide) rfl (by decide) (fun b679 => ?_) (fun b679 => ?_)
                              · refine mv_iinc (v := (i6_273 + 1)) (lv' := [(6, .int (i6_273 + 1)), (7, .int ((20 * (20 + v62)) + i6_273)), (5, .int v62), (4, .int v71), (3, .int (20 + v62)), (0, .ref o0), (1, .int x1), (2, .int x2)]) d_TrustDeskModel_fund_268 rfl rfl (by decide) rfl ?_
                                refine mv_goto (tgt := 155) d_TrustDeskModel_fund_271 (by decide) ?_
                                refine mv_locals (lv' := [(6, .int (i6_273 + 1)), (5, .int v62), (4, .int v71), (3, .int (20 + v62)), (0, .ref o0), (1, .int x1), (2, .int x2)]) (by intro q hq; simp only [List.mem_cons, List.not_mem_nil, or_false] at hq; rcases hq with rfl | rfl | rfl | rfl | rfl | rfl | rfl <;> rfl) ?_
                                have b680 : (i6_273 + 1).toInt = i6_273.toInt + 1 := mz_addn 1 1 (by decide) (by have := mz_lo i6_273; omega) (by have := mz_hi i6_273; omega)
                                exact (ih273 (i6_273 + 1) T_273 M648 n_273 I649 h_q0_273 (by have := R651.1 15 _ _ rfl; have := R651.1 16 _ _ rfl; have := R651.1 19 _ _ rfl; first | omega | decide | exact fun h9 => absurd (by decide) h9) (by have := R651.1 15 _ _ rfl; have := R651.1 16 _ _ rfl; have := R651.1 19 _ _ rfl; first | omega | decide | exact fun h9 => absurd (by decide) h9) (by have := R651.1 15 _ _ rfl; have := R651.1 16 _ _ rfl; have := R651.1 19 _ _ rfl; first | omega | decide | exact fun h9 => absurd (by decide) h9) (by have := R651.1 15 _ _ rfl; have := R651.1 16 _ _ rfl; have := R651.1 19 _ _ rfl; first | omega | decide | exact fun h9 => absurd (by decide) h9) (by have := R651.1 15 _ _ rfl; have := R651.1 16 _ _ rfl; have := R651.1 19 _ _ rfl; first | omega | decide | exact fun h9 => absurd (by decide) h9) (by have := R651.1 15 _ _ rfl; have := R651.1 16 _ _ rfl; have := R651.1 19 _ _ rfl; first | omega | decide | exact fun h9 => absurd (by decide) h9) (by have := R651.1 15 _ _ rfl; have := R651.1 16 _ _ rfl; have := R651.1 19 _ _ rfl; first | omega | decide | exact fun h9 => absurd (by decide) h9) (by rw [show (i6_273 + 1 : Int32).toInt.toNat = i6_273.toInt.toNat + 1 from by omega]; have := R651.1 15 _ _ rfl; have := R651.1 16 _ _ rfl; have := R651.1 19 _ _ rfl; omega) (by have := R651.1 15 _ _ rfl; have := R651.1 16 _ _ rfl; have := R651.1 19 _ _ rfl; first | omega | decide | exact fun h9 => absurd (by decide) h9) R651 K669 K670 K671 K672 (by have := R651.1 15 _ _ rfl; have := R651.1 16 _ _ rfl; have := R651.1 19 _ _ rfl; omega))
                              · refine mv_aload_n d_TrustDeskModel_fund_256 rfl rfl ?_
                                refine mv_iload d_TrustDeskModel_fund_257 rfl ?_
                                refine mv_iload_n d_TrustDeskModel_fund_259 rfl rfl ?_
                                refine mv_iload d_TrustDeskModel_fund_260 rfl ?_
                                refine mv_iconst (v := 0) d_TrustDeskModel_fund_262 (by decide) ?_
                                refine mv_iconst (v := 0) d_TrustDeskModel_fund_263 (by decide) ?_
                                refine mv_iconst (v := (-1)) d_TrustDeskModel_fund_264 (by decide) ?_
                                obtain ⟨_, b687, -⟩ := I649.1 _ _ h_q0_273
                                have b688 : (20 + v62 : Int32).toInt = (20 + v62.toInt) := mz_add2 (by decide) rfl (by have := R651.1 15 _ _ rfl; have := R651.1 16 _ _ rfl; have := R651.1 19 _ _ rfl; omega) (by have := R651.1 15 _ _ rfl; have := R651.1 16 _ _ rfl; have := R651.1 19 _ _ rfl; omega)
                                have b689 : (20 + v62 : Int32).toInt = (20 + v62.toInt) := mz_add2 (by decide) rfl (by have := R651.1 15 _ _ rfl; have := R651.1 16 _ _ rfl; have := R651.1 19 _ _ rfl; omega) (by have := R651.1 15 _ _ rfl; have := R651.1 16 _ _ rfl; have := R651.1 19 _ _ rfl; omega)
                                have b690 : (20 * (20 + v62) : Int32).toInt = (20 * (20 + v62.toInt)) := mz_mul2 (by decide) b689 (by have := R651.1 15 _ _ rfl; have := R651.1 16 _ _ rfl; have := R651.1 19 _ _ rfl; omega) (by have := R651.1 15 _ _ rfl; have := R651.1 16 _ _ rfl; have := R651.1 19 _ _ rfl; omega)
                                have b691 : ((20 * (20 + v62)) + i6_273 : Int32).toInt = ((20 * (20 + v62.toInt)) + i6_273.toInt) := mz_add2 b690 rfl (by have := R651.1 15 _ _ rfl; have := R651.1 16 _ _ rfl; have := R651.1 19 _ _ rfl; omega) (by have := R651.1 15 _ _ rfl; have := R651.1 16 _ _ rfl; have := R651.1 19 _ _ rfl; omega)
                                have : (0 : Int32).toInt = 0 := by decide
                                have : (0 : Int32).toInt = 0 := by decide
                                have : ((-1) : Int32).toInt = (-1) := by decide
                                refine mv_callV (kc' := 0) (ks' := 0) (As := [.int v62, .int (20 + v62), .int ((20 * (20 + v62)) + i6_273), .int 0, .int 0, .int (-1)]) (st9 := [.int (-1), .int 0, .int 0, .int ((20 * (20 + v62)) + i6_273), .int (20 + v62), .int v62, .ref o0]) d_TrustDeskModel_fund_265 lV_TrustDeskModel_428 b687 rfl (tc_TrustDeskModel_addEnd_x (d := (d + 26)) (x9 := x9) (o0 := o0) (x1 := v62) (x2 := (20 + v62)) (x3 := ((20 * (20 + v62)) + i6_273)) (x4 := 0) (x5 := 0) (x6 := (-1)) h_q0_273 (by have := R651.1 15 _ _ rfl; have := R651.1 16 _ _ rfl; have := R651.1 19 _ _ rfl; omega) (by have := R651.1 15 _ _ rfl; have := R651.1 16 _ _ rfl; have := R651.1 19 _ _ rfl; omega) (by have := R651.1 15 _ _ rfl; have := R651.1 16 _ _ rfl; have := R651.1 19 _ _ rfl; omega) R651 (by have := R651.1 15 _ _ rfl; have := R651.1 16 _ _ rfl; have := R651.1 19 _ _ rfl; omega) I649.start) rfl (Nat.le_of_ble_eq_true rfl) (Nat.le_of_ble_eq_true rfl) (Nat.le_of_ble_eq_true rfl) (hst := rfl) (fun b681r M682 n683 b681 => ?_)
                                obtain ⟨T684, J685, rfl, R692, f693⟩ := b681
                                have I686 := I649.call J685 (tm_sub (by decide)) (Or.inl rfl)
                                have t694 := J685.up h_q0_273
                                have z695 := (rv_c I649 J685 (I649.up h_o0) (k := 15) rfl).trans z655
                                have z696 := (rv_c I649 J685 (I649.up h_o0) (k := 16) rfl).trans z656
                                have z697 := (rv_c I649 J685 (I649.up h_o0) (k := 17) rfl).trans z657
                                have z698 := (rv_c I649 J685 (I649.up h_o0) (k := 19) rfl).trans z658
                                have z699 := (rv_c I649 J685 (I649.up h_o0) (k := 22) rfl).trans z659
                                have z700 := (rv_c I649 J685 (I649.up h_o0) (k := 24) rfl).trans z660
                                have z701 := (rv_c I649 J685 (I649.up h_o0) (k := 27) rfl).trans z661
                                have z702 := (rv_c I649 J685 (I649.up h_o0) (k := 32) rfl).trans z662
                                have z703 := (rv_c I649 J685 (I649.up h_o0) (k := 49) rfl).trans z663
                                have z704 := (ra_call I649 J685 (I649.up h_o0) (k := 5) rfl rfl rfl 44).trans z664
                                have z705 := (ra_call I649 J685 (I649.up h_o0) (k := 6) rfl rfl rfl 44).trans z665
                                have z706 := (ra_call I649 J685 (I649.up h_o0) (k := 6) rfl rfl rfl ((20 + v62).toNatClampNeg)).trans z666
                                have z707 := (ra_call I649 J685 (I649.up h_o0) (k := 37) rfl rfl rfl v62.toNatClampNeg).trans z668
                                have K708 : rP M682 o0 := K669.same (sA_c I649 J685 (I649.up h_o0) (by decide)) (sF_c I649 J685 (I649.up h_o0) (by decide))
                                have K709 : rB M682 o0 v62.toNatClampNeg := K670.add f693 (sA_c I649 J685 (I649.up h_o0) (by decide)) (sF_c I649 J685 (I649.up h_o0) (by decide)) (by have := mz_nat9 (i := v62) (by have := R651.1 15 _ _ rfl; have := R651.1 16 _ _ rfl; have := R651.1 19 _ _ rfl; omega); have := R651.1 15 _ _ rfl; have := R651.1 16 _ _ rfl; have := R651.1 19 _ _ rfl; omega)
                                have K710 : sA [7] M64 M682 o0 := K671.trans (sA_c I649 J685 (I649.up h_o0) (by decide))
                                have K711 : rC M682 o0 ((20 + v62).toNatClampNeg) := K672.add R651 f693 (by have := mz_nat9 (i := v62) (by have := R651.1 15 _ _ rfl; have := R651.1 16 _ _ rfl; have := R651.1 19 _ _ rfl; omega); have := R651.1 15 _ _ rfl; have := R651.1 16 _ _ rfl; have := R651.1 19 _ _ rfl; omega) i6_273.toInt.toNat (by have := R651.1 15 _ _ rfl; have := R651.1 16 _ _ rfl; have := R651.1 19 _ _ rfl; omega) (by have := mz_nat9 (i := i6_273) (by have := R651.1 15 _ _ rfl; have := R651.1 16 _ _ rfl; have := R651.1 19 _ _ rfl; omega); have := R651.1 15 _ _ rfl; have := R651.1 16 _ _ rfl; have := R651.1 19 _ _ rfl; omega) (by rw [show ((20 * (20 + v62)) + i6_273).toInt.toNat = ((20 * (20 + v62)) + i6_273).toNatClampNeg from by have := mz_nat9 (i := ((20 * (20 + v62)) + i6_273)) (by have := R651.1 15 _ _ rfl; have := R651.1 16 _ _ rfl; have := R651.1 19 _ _ rfl; omega); have := R651.1 15 _ _ rfl; have := R651.1 16 _ _ rfl; have := R651.1 19 _ _ rfl; omega]; omega) (sA_c I649 J685 (I649.up h_o0) (by decide)) (sF_c I649 J685 (I649.up h_o0) (by decide))
                                have := f693.2.2 v62.toNatClampNeg
                                rw [if_pos rfl] at this
                                clear z655 z656 z657 z659 z660 z661 z662 z663 z664 z665 z666 z668
                                have q712 := J685.keep h_q0_273 (by decide) (K650 _ 13 6 _ (K616 _ 13 6 _ (K529 _ 13 6 _ q274)))
                                have t713 := J685.up t_a275
                                have q714 := J685.keep h_q0_273 (by decide) (K650 _ 13 7 _ (K616 _ 13 7 _ (K529 _ 13 7 _ q336)))
                                have t715 := J685.up t_a337
                                have q716 := J685.keep h_q0_273 (by decide) (K650 _ 13 36 _ (K616 _ 13 36 _ (K529 _ 13 36 _ q516)))
                                have t717 := J685.up t_a517
                                have q718 := J685.keep h_q0_273 (by decide) (K650 _ 13 8 _ (K616 _ 13 8 _ (K529 _ 13 8 _ q520)))
                                have t719 := J685.up t_a521
                                have q720 := J685.keep h_q0_273 (by decide) (K650 _ 13 38 _ (K616 _ 13 38 _ q607))
                                have t721 := J685.up t_a608
                                have q722 := J685.keep h_q0_273 (by decide) (K650 _ 13 39 _ q639)
                                have t723 := J685.up t_a640
                                have q724 := J685.keep h_q0_273 (by decide) (K650 _ 13 9 _ q641)
                                have t725 := J685.up t_a642
                                refine mv_iinc (v := (i6_273 + 1)) (lv' := [(6, .int (i6_273 + 1)), (7, .int ((20 * (20 + v62)) + i6_273)), (5, .int v62), (4, .int v71), (3, .int (20 + v62)), (0, .ref o0), (1, .int x1), (2, .int x2)]) d_TrustDeskModel_fund_268 rfl rfl (by decide) rfl ?_
                                refine mv_goto (tgt := 155) d_TrustDeskModel_fund_271 (by decide) ?_
                                refine mv_locals (lv' := [(6, .int (i6_273 + 1)), (5, .int v62), (4, .int v71), (3, .int (20 + v62)), (0, .ref o0), (1, .int x1), (2, .int x2)]) (by intro q hq; simp only [List.mem_cons, List.not_mem_nil, or_false] at hq; rcases hq with rfl | rfl | rfl | rfl | rfl | rfl | rfl <;> rfl) ?_
                                have b726 : (i6_273 + 1).toInt = i6_273.toInt + 1 := mz_addn 1 1 (by decide) (by have := mz_lo i6_273; omega) (by have := mz_hi i6_273; omega)
                                exact (ih273 (i6_273 + 1) T684 M682 n683 I686 t694 (by have := R692.1 15 _ _ rfl; have := R692.1 16 _ _ rfl; have := R692.1 19 _ _ rfl; first | omega | decide | exact fun h9 => absurd (by decide) h9) (by have := R692.1 15 _ _ rfl; have := R692.1 16 _ _ rfl; have := R692.1 19 _ _ rfl; first | omega | decide | exact fun h9 => absurd (by decide) h9) (by have := R692.1 15 _ _ rfl; have := R692.1 16 _ _ rfl; have := R692.1 19 _ _ rfl; first | omega | decide | exact fun h9 => absurd (by decide) h9) (by have := R692.1 15 _ _ rfl; have := R692.1 16 _ _ rfl; have := R692.1 19 _ _ rfl; first | omega | decide | exact fun h9 => absurd (by decide) h9) (by have := R692.1 15 _ _ rfl; have := R692.1 16 _ _ rfl; have := R692.1 19 _ _ rfl; first | omega | decide | exact fun h9 => absurd (by decide) h9) (by have := R692.1 15 _ _ rfl; have := R692.1 16 _ _ rfl; have := R692.1 19 _ _ rfl; first | omega | decide | exact fun h9 => absurd (by decide) h9) (by have := R692.1 15 _ _ rfl; have := R692.1 16 _ _ rfl; have := R692.1 19 _ _ rfl; first | omega | decide | exact fun h9 => absurd (by decide) h9) (by rw [show (i6_273 + 1 : Int32).toInt.toNat = i6_273.toInt.toNat + 1 from by omega]; have := R692.1 15 _ _ rfl; have := R692.1 16 _ _ rfl; have := R692.1 19 _ _ rfl; omega) (by have := R692.1 15 _ _ rfl; have := R692.1 16 _ _ rfl; have := R692.1 19 _ _ rfl; first | omega | decide | exact fun h9 => absurd (by decide) h9) R692 K708 K709 K710 K711 (by have := R692.1 15 _ _ rfl; have := R692.1 16 _ _ rfl; have := R692.1 19 _ _ rfl; omega))
                    have K727 : rB M248 o0 v62.toNatClampNeg := K270.to
                    exact mv_less (Nat.zero_le _) (Nat.zero_le _) (L155_273 4294967296 0 T66 M248 n65 I249 t75 (by have := R251.1 15 _ _ rfl; have := R251.1 16 _ _ rfl; have := R251.1 19 _ _ rfl; first | omega | decide | exact fun h9 => absurd (by decide) h9) (by have := R251.1 15 _ _ rfl; have := R251.1 16 _ _ rfl; have := R251.1 19 _ _ rfl; first | omega | decide | exact fun h9 => absurd (by decide) h9) (by have := R251.1 15 _ _ rfl; have := R251.1 16 _ _ rfl; have := R251.1 19 _ _ rfl; first | omega | decide | exact fun h9 => absurd (by decide) h9) (by have := R251.1 15 _ _ rfl; have := R251.1 16 _ _ rfl; have := R251.1 19 _ _ rfl; first | omega | decide | exact fun h9 => absurd (by decide) h9) (by have := R251.1 15 _ _ rfl; have := R251.1 16 _ _ rfl; have := R251.1 19 _ _ rfl; first | omega | decide | exact fun h9 => absurd (by decide) h9) (by have := R251.1 15 _ _ rfl; have := R251.1 16 _ _ rfl; have := R251.1 19 _ _ rfl; first | omega | decide | exact fun h9 => absurd (by decide) h9) (by have := R251.1 15 _ _ rfl; have := R251.1 16 _ _ rfl; have := R251.1 19 _ _ rfl; first | omega | decide | exact fun h9 => absurd (by decide) h9) (by show _ ≤ kc _ _ _ 0; show _ ≤ (0 : Int); have := R251.1 15 _ _ rfl; have := R251.1 16 _ _ rfl; have := R251.1 19 _ _ rfl; omega) (by have := R251.1 15 _ _ rfl; have := R251.1 16 _ _ rfl; have := R251.1 19 _ _ rfl; first | omega | decide | exact fun h9 => absurd (by decide) h9) R251 K269 K727 K271 K272 (by show (2147483647 - (0 : Int) : Int) < _; decide))
                  · have K728 : rC M64 o0 44 := K87.1 (by omega)
                    refine mv_iload d_TrustDeskModel_fund_86 rfl ?_
                    exact mv_iret d_TrustDeskModel_fund_88 rfl (by first | rfl | decide) ⟨_, I68, _, rfl, R72, K728, K85, K86, (by have := R72.1 15 _ _ rfl; have := R72.1 16 _ _ rfl; have := R72.1 19 _ _ rfl; omega)⟩
                · refine mv_iconst (v := 1) d_TrustDeskModel_isWell_7 (by decide) ?_
                  refine mv_goto (tgt := 12) d_TrustDeskModel_isWell_8 (by decide) ?_
                  refine mv_iret d_TrustDeskModel_isWell_12 rfl (by decide) ?_
                  refine mv_if_eq_f (tgt := 66) d_TrustDeskModel_fund_49 (by decide) (by decide) ?_
                  refine mv_aload_n d_TrustDeskModel_fund_52 rfl rfl ?_
                  obtain ⟨v730, q729⟩ := tm_atI I_56 h_q0_56 (k := 17) rfl
                  refine tr_getK q729 d_TrustDeskModel_fund_53 f_TrustDeskModel_198_13 ?_
                  have := tm_rv q729
                  have := mz_hi v730
                  refine mv_if_eqZ (tgt := 66) (a := v730.toInt) d_TrustDeskModel_fund_56 (by decide) rfl (fun b731 => ?_) (fun b731 => ?_)
                  · refine mv_bipush (v := 20) d_TrustDeskModel_fund_66 (by decide) ?_
                    refine mv_aload_n d_TrustDeskModel_fund_68 rfl rfl ?_
                    obtain ⟨v733, q732⟩ := tm_atI I_56 h_q0_56 (k := 32) rfl
                    refine tr_getK q732 d_TrustDeskModel_fund_69 f_TrustDeskModel_415_13 ?_
                    have := kKR_56.f (k := 32) q732 rfl
                    refine mv_iadd d_TrustDeskModel_fund_72 ?_
                    refine mv_istore_n (lv' := [(3, .int (20 + v733)), (0, .ref o0), (1, .int x1), (2, .int x2)]) d_TrustDeskModel_fund_73 rfl (by decide) rfl ?_
                    refine mv_aload_n d_TrustDeskModel_fund_74 rfl rfl ?_
                    refine mv_iload_n d_TrustDeskModel_fund_75 rfl rfl ?_
                    obtain ⟨_, b740, -⟩ := I_56.1 _ _ h_q0_56
                    have b741 : (20 + v733 : Int32).toInt = (20 + v733.toInt) := mz_add2 (by decide) rfl (by have := kKR_56.1 15 _ _ rfl; have := kKR_56.1 16 _ _ rfl; have := kKR_56.1 19 _ _ rfl; omega) (by have := kKR_56.1 15 _ _ rfl; have := kKR_56.1 16 _ _ rfl; have := kKR_56.1 19 _ _ rfl; omega)
                    refine mv_callV (kc' := 0) (ks' := 0) (As := [.int (20 + v733)]) (st9 := [.int (20 + v733), .ref o0]) d_TrustDeskModel_fund_76 lV_TrustDeskModel_388 b740 rfl (tc_TrustDeskModel_stops_x (d := (d + 25)) (x9 := x9) (o0 := o0) (x1 := (20 + v733)) h_q0_56 kKR_56 (by have := kKR_56.1 15 _ _ rfl; have := kKR_56.1 16 _ _ rfl; have := kKR_56.1 19 _ _ rfl; omega) I_56.start) rfl (Nat.le_of_ble_eq_true rfl) (Nat.le_of_ble_eq_true rfl) (Nat.le_of_ble_eq_true rfl) (hst := rfl) (fun b734r M735 n736 b734 => ?_)
                    obtain ⟨T737, J738, v742, rfl, R743, f744, f745⟩ := b734
                    have I739 := I_56.call J738 (tm_sub (by decide)) (Or.inl rfl)
                    have t746 := J738.up h_q0_56
                    replace f744 := Im.i f744
                    replace f745 := Im.i f745
                    have z747 := (rv_c I_56 J738 (I_56.up h_o0) (k := 15) rfl)
                    have z748 := (rv_c I_56 J738 (I_56.up h_o0) (k := 16) rfl)
                    have z749 := (rv_c I_56 J738 (I_56.up h_o0) (k := 17) rfl)
                    have z750 := (rv_c I_56 J738 (I_56.up h_o0) (k := 19) rfl)
                    have z751 := (rv_c I_56 J738 (I_56.up h_o0) (k := 22) rfl)
                    have z752 := (rv_c I_56 J738 (I_56.up h_o0) (k := 24) rfl)
                    have z753 := (rv_c I_56 J738 (I_56.up h_o0) (k := 27) rfl)
                    have z754 := (rv_c I_56 J738 (I_56.up h_o0) (k := 32) rfl)
                    have z755 := (rv_c I_56 J738 (I_56.up h_o0) (k := 49) rfl)
                    have K756 : rP M735 o0 := kKP_56.same (sA_c I_56 J738 (I_56.up h_o0) (by decide)) (sF_c I_56 J738 (I_56.up h_o0) (by decide))
                    have K757 : rB M735 o0 12 := kKB_56.same (sA_c I_56 J738 (I_56.up h_o0) (by decide)) (sF_c I_56 J738 (I_56.up h_o0) (by decide))
                    have K758 : (v742.toInt < 0 → rC M735 o0 44) ∧ (0 ≤ v742.toInt → rC M735 o0 ((20 + v733).toNatClampNeg)) := rC.st kKC_56 kKR_56 kKW_56 (by have := mz_nat9 (i := (20 + v733)) (by have := kKR_56.1 15 _ _ rfl; have := kKR_56.1 16 _ _ rfl; have := kKR_56.1 19 _ _ rfl; omega); have := kKR_56.1 15 _ _ rfl; have := kKR_56.1 16 _ _ rfl; have := kKR_56.1 19 _ _ rfl; omega) (by unfold rU; have := mz_nat9 (i := (20 + v733)) (by have := kKR_56.1 15 _ _ rfl; have := kKR_56.1 16 _ _ rfl; have := kKR_56.1 19 _ _ rfl; omega); have := kKR_56.1 15 _ _ rfl; have := kKR_56.1 16 _ _ rfl; have := kKR_56.1 19 _ _ rfl; omega) f744 f745 (sA_c I_56 J738 (I_56.up h_o0) (by decide)) (sF_c I_56 J738 (I_56.up h_o0) (by decide))
                    have h759 := kc_of f744 f745 kKR_56 kKW_56
                    have := (kKR_56.2 6 _ _ rfl 44)
                    have K760 : sA [7] M735 M735 o0 := sA.rf
                    have : 0 ≤ v742.toInt → ra M735 o0 6 (20 + v733).toNatClampNeg = ra M_56 o0 6 44 := fun h9 => by
                      by_cases w9 : rv M_56 o0 19 = 0
                      · exact (f745.o w9).2.2.2.2.2.2.2
                      · have := (f744.o w9).1; omega
                    have q761 := J738.keep h_q0_56 (by decide) q58
                    have q762 := J738.keep h_q0_56 (by decide) q729
                    have q763 := J738.keep h_q0_56 (by decide) q732
                    refine mv_istore (lv' := [(4, .int v742), (3, .int (20 + v733)), (0, .ref o0), (1, .int x1), (2, .int x2)]) d_TrustDeskModel_fund_79 (by decide) rfl ?_
                    refine mv_iload d_TrustDeskModel_fund_81 rfl ?_
                    have := mz_hi v742
                    refine mv_if_geZ (tgt := 89) (a := v742.toInt) d_TrustDeskModel_fund_83 (by decide) rfl (fun b764 => ?_) (fun b764 => ?_)
                    · have K765 : rC M735 o0 ((20 + v733).toNatClampNeg) := K758.2 (by omega)
                      refine mv_aload_n d_TrustDeskModel_fund_89 rfl rfl ?_
                      refine tr_getK (k := 32) q763 d_TrustDeskModel_fund_90 f_TrustDeskModel_415_13 ?_
                      refine mv_istore (lv' := [(5, .int v733), (4, .int v742), (3, .int (20 + v733)), (0, .ref o0), (1, .int x1), (2, .int x2)]) d_TrustDeskModel_fund_93 (by decide) rfl ?_
                      refine mv_aload_n d_TrustDeskModel_fund_95 rfl rfl ?_
                      obtain ⟨a767, q766, t_a767⟩ := tm_atR I739 t746 (k := 33) rfl
                      refine tr_getK q766 d_TrustDeskModel_fund_96 f_TrustDeskModel_66_13 ?_
                      refine mv_iload d_TrustDeskModel_fund_99 rfl ?_
                      refine mv_iload_n d_TrustDeskModel_fund_101 rfl rfl ?_
                      refine tr_iastR (k := 33) I739 R743 (I739.up h_o0) q766 t_a767 (by decide) (by decide) (fun lo hi h => by cases h; have := R743.1 15 _ _ rfl; have := R743.1 16 _ _ rfl; have := R743.1 19 _ _ rfl; exact ⟨by show (0 : Int) ≤ x1.toInt; omega, by show x1.toInt ≤ (999 : Int); omega⟩) (Or.inl (by decide)) d_TrustDeskModel_fund_102 (vp_in_iff.mpr (by have := R743.1 15 _ _ rfl; have := R743.1 16 _ _ rfl; have := R743.1 19 _ _ rfl; omega)) (fun M768 I769 K770 R771 E772 A773 V774 => ?_)
                      have z775 := (V774 15).trans z747
                      have z776 := (V774 16).trans z748
                      have z777 := (V774 17).trans z749
                      have z778 := (V774 19).trans z750
                      have z779 := (V774 22).trans z751
                      have z780 := (V774 24).trans z752
                      have z781 := (V774 27).trans z753
                      have z782 := (V774 32).trans z754
                      have z783 := (V774 49).trans z755
                      have z784 := (A773 5 (by decide) rfl 44)
                      have z785 := (A773 6 (by decide) rfl 44)
                      have z786 := (A773 6 (by decide) rfl ((20 + v733).toNatClampNeg))
                      have K787 : rP M768 o0 := K756.same (sA_a A773 (by decide)) (sF_a V774)
                      have K788 : rB M768 o0 12 := K757.same (sA_a A773 (by decide)) (sF_a V774)
                      have K789 : sA [7] M735 M768 o0 := K760.trans (sA_a A773 (by decide))
                      have K790 : rC M768 o0 ((20 + v733).toNatClampNeg) := K765.same (sA_a A773 (by decide)) (sF_a V774)
                      clear z747 z748 z749 z751 z752 z753 z754 z755
                      refine mv_aload_n d_TrustDeskModel_fund_103 rfl rfl ?_
                      obtain ⟨a792, q791, t_a792⟩ := tm_atR I769 t746 (k := 34) rfl
                      refine tr_getK q791 d_TrustDeskModel_fund_104 f_TrustDeskModel_69_13 ?_
                      refine mv_iload d_TrustDeskModel_fund_107 rfl ?_
                      refine mv_iload_n d_TrustDeskModel_fund_109 rfl rfl ?_
                      refine tr_iastR (k := 34) I769 R771 (I769.up h_o0) q791 t_a792 (by decide) (by decide) (fun lo hi h => by cases h; have := R771.1 15 _ _ rfl; have := R771.1 16 _ _ rfl; have := R771.1 19 _ _ rfl; exact ⟨by show (0 : Int) ≤ x2.toInt; omega, by show x2.toInt ≤ (99999 : Int); omega⟩) (Or.inl (by decide)) d_TrustDeskModel_fund_110 (vp_in_iff.mpr (by have := R771.1 15 _ _ rfl; have := R771.1 16 _ _ rfl; have := R771.1 19 _ _ rfl; omega)) (fun M793 I794 K795 R796 E797 A798 V799 => ?_)
                      have z800 := (V799 15).trans z775
                      have z801 := (V799 16).trans z776
                      have z802 := (V799 17).trans z777
                      have z803 := (V799 19).trans z778
                      have z804 := (V799 22).trans z779
                      have z805 := (V799 24).trans z780
                      have z806 := (V799 27).trans z781
                      have z807 := (V799 32).trans z782
                      have z808 := (V799 49).trans z783
                      have z809 := (A798 5 (by decide) rfl 44).trans z784
                      have z810 := (A798 6 (by decide) rfl 44).trans z785
                      have z811 := (A798 6 (by decide) rfl ((20 + v733).toNatClampNeg)).trans z786
                      have K812 : rP M793 o0 := K787.same (sA_a A798 (by decide)) (sF_a V799)
                      have K813 : rB M793 o0 12 := K788.same (sA_a A798 (by decide)) (sF_a V799)
                      have K814 : sA [7] M735 M793 o0 := K789.trans (sA_a A798 (by decide))
                      have K815 : rC M793 o0 ((20 + v733).toNatClampNeg) := K790.same (sA_a A798 (by decide)) (sF_a V799)
                      clear z775 z776 z777 z779 z780 z781 z782 z783 z784 z785 z786
                      refine mv_aload_n d_TrustDeskModel_fund_111 rfl rfl ?_
                      obtain ⟨a817, q816, t_a817⟩ := tm_atR I794 t746 (k := 35) rfl
                      refine tr_getK q816 d_TrustDeskModel_fund_112 f_TrustDeskModel_72_13 ?_
                      refine mv_iload d_TrustDeskModel_fund_115 rfl ?_
                      refine mv_lconst (v := 0) d_TrustDeskModel_fund_117 (by decide) ?_
                      refine tr_lastR (k := 35) I794 R796 (I794.up h_o0) q816 t_a817 (by decide) (by decide) (fun lo hi h => by cases h; exact (by decide)) (Or.inl (by decide)) d_TrustDeskModel_fund_118 (vp_in_iff.mpr (by have := R796.1 15 _ _ rfl; have := R796.1 16 _ _ rfl; have := R796.1 19 _ _ rfl; omega)) (fun M818 I819 K820 R821 E822 A823 V824 => ?_)
                      have z825 := (V824 15).trans z800
                      have z826 := (V824 16).trans z801
                      have z827 := (V824 17).trans z802
                      have z828 := (V824 19).trans z803
                      have z829 := (V824 22).trans z804
                      have z830 := (V824 24).trans z805
                      have z831 := (V824 27).trans z806
                      have z832 := (V824 32).trans z807
                      have z833 := (V824 49).trans z808
                      have z834 := (A823 5 (by decide) rfl 44).trans z809
                      have z835 := (A823 6 (by decide) rfl 44).trans z810
                      have z836 := (A823 6 (by decide) rfl ((20 + v733).toNatClampNeg)).trans z811
                      have K837 : rP M818 o0 := K812.same (sA_a A823 (by decide)) (sF_a V824)
                      have K838 : rB M818 o0 12 := K813.same (sA_a A823 (by decide)) (sF_a V824)
                      have K839 : sA [7] M735 M818 o0 := K814.trans (sA_a A823 (by decide))
                      have K840 : rC M818 o0 ((20 + v733).toNatClampNeg) := K815.same (sA_a A823 (by decide)) (sF_a V824)
                      clear z800 z801 z802 z804 z805 z806 z807 z808 z809 z810 z811
                      refine mv_aload_n d_TrustDeskModel_fund_119 rfl rfl ?_
                      obtain ⟨a842, q841, t_a842⟩ := tm_atR I819 t746 (k := 36) rfl
                      refine tr_getK q841 d_TrustDeskModel_fund_120 f_TrustDeskModel_76_13 ?_
                      refine mv_iload d_TrustDeskModel_fund_123 rfl ?_
                      refine mv_iconst (v := 0) d_TrustDeskModel_fund_125 (by decide) ?_
                      refine tr_iastR (k := 36) I819 R821 (I819.up h_o0) q841 t_a842 (by decide) (by decide) (fun lo hi h => by cases h) (Or.inl (by decide)) d_TrustDeskModel_fund_126 (vp_in_iff.mpr (by have := R821.1 15 _ _ rfl; have := R821.1 16 _ _ rfl; have := R821.1 19 _ _ rfl; omega)) (fun M843 I844 K845 R846 E847 A848 V849 => ?_)
                      have z850 := (V849 15).trans z825
                      have z851 := (V849 16).trans z826
                      have z852 := (V849 17).trans z827
                      have z853 := (V849 19).trans z828
                      have z854 := (V849 22).trans z829
                      have z855 := (V849 24).trans z830
                      have z856 := (V849 27).trans z831
                      have z857 := (V849 32).trans z832
                      have z858 := (V849 49).trans z833
                      have z859 := (A848 5 (by decide) rfl 44).trans z834
                      have z860 := (A848 6 (by decide) rfl 44).trans z835
                      have z861 := (A848 6 (by decide) rfl ((20 + v733).toNatClampNeg)).trans z836
                      have K862 : rP M843 o0 := K837.same (sA_a A848 (by decide)) (sF_a V849)
                      have K863 : rB M843 o0 12 := K838.same (sA_a A848 (by decide)) (sF_a V849)
                      have K864 : sA [7] M735 M843 o0 := K839.trans (sA_a A848 (by decide))
                      have K865 : rC M843 o0 ((20 + v733).toNatClampNeg) := K840.same (sA_a A848 (by decide)) (sF_a V849)
                      clear z825 z826 z827 z829 z830 z831 z832 z833 z834 z835 z836
                      refine mv_aload_n d_TrustDeskModel_fund_127 rfl rfl ?_
                      obtain ⟨a867, q866, t_a867⟩ := tm_atR I844 t746 (k := 37) rfl
                      refine tr_getK q866 d_TrustDeskModel_fund_128 f_TrustDeskModel_79_13 ?_
                      refine mv_iload d_TrustDeskModel_fund_131 rfl ?_
                      refine mv_iconst (v := (-1)) d_TrustDeskModel_fund_133 (by decide) ?_
                      refine tr_iastR (k := 37) I844 R846 (I844.up h_o0) q866 t_a867 (by decide) (by decide) (fun lo hi h => by cases h; exact (by decide)) (Or.inl (by decide)) d_TrustDeskModel_fund_134 (vp_in_iff.mpr (by have := R846.1 15 _ _ rfl; have := R846.1 16 _ _ rfl; have := R846.1 19 _ _ rfl; omega)) (fun M868 I869 K870 R871 E872 A873 V874 => ?_)
                      have z875 := (V874 15).trans z850
                      have z876 := (V874 16).trans z851
                      have z877 := (V874 17).trans z852
                      have z878 := (V874 19).trans z853
                      have z879 := (V874 22).trans z854
                      have z880 := (V874 24).trans z855
                      have z881 := (V874 27).trans z856
                      have z882 := (V874 32).trans z857
                      have z883 := (V874 49).trans z858
                      have z884 := (A873 5 (by decide) rfl 44).trans z859
                      have z885 := (A873 6 (by decide) rfl 44).trans z860
                      have z886 := (A873 6 (by decide) rfl ((20 + v733).toNatClampNeg)).trans z861
                      have K887 : rP M868 o0 := K862.out A873 E872 V874 (by have := mz_nat9 (i := v733) (by have := R846.1 15 _ _ rfl; have := R846.1 16 _ _ rfl; have := R846.1 19 _ _ rfl; omega); have := R846.1 15 _ _ rfl; have := R846.1 16 _ _ rfl; have := R846.1 19 _ _ rfl; omega)
                      have K888 : rB M868 o0 12 := K863.out A873 E872 V874 (by have := mz_nat9 (i := v733) (by have := R846.1 15 _ _ rfl; have := R846.1 16 _ _ rfl; have := R846.1 19 _ _ rfl; omega); have := R846.1 15 _ _ rfl; have := R846.1 16 _ _ rfl; have := R846.1 19 _ _ rfl; omega)
                      have K889 : sA [7] M735 M868 o0 := K864.trans (sA_a A873 (by decide))
                      have K890 : rC M868 o0 ((20 + v733).toNatClampNeg) := K865.same (sA_a A873 (by decide)) (sF_a V874)
                      have := (K863.2 v733.toNatClampNeg (by have := mz_nat9 (i := v733) (by have := R846.1 15 _ _ rfl; have := R846.1 16 _ _ rfl; have := R846.1 19 _ _ rfl; omega); have := R846.1 15 _ _ rfl; have := R846.1 16 _ _ rfl; have := R846.1 19 _ _ rfl; omega) (by have := mz_nat9 (i := v733) (by have := R846.1 15 _ _ rfl; have := R846.1 16 _ _ rfl; have := R846.1 19 _ _ rfl; omega); have := R846.1 15 _ _ rfl; have := R846.1 16 _ _ rfl; have := R846.1 19 _ _ rfl; omega)).1 (by have := mz_nat9 (i := v733) (by have := R846.1 15 _ _ rfl; have := R846.1 16 _ _ rfl; have := R846.1 19 _ _ rfl; omega); have := R846.1 15 _ _ rfl; have := R846.1 16 _ _ rfl; have := R846.1 19 _ _ rfl; omega)
                      have := A873 43 (by decide) rfl v733.toNatClampNeg
                      have : ra M868 o0 37 v733.toNatClampNeg = -1 := (E872 _).trans (if_pos rfl)
                      clear z850 z851 z852 z854 z855 z856 z857 z858 z859 z860 z861
                      refine mv_aload_n d_TrustDeskModel_fund_135 rfl rfl ?_
                      obtain ⟨a892, q891, t_a892⟩ := tm_atR I869 t746 (k := 38) rfl
                      refine tr_getK q891 d_TrustDeskModel_fund_136 f_TrustDeskModel_82_13 ?_
                      refine mv_iload d_TrustDeskModel_fund_139 rfl ?_
                      refine mv_bipush (v := 7) d_TrustDeskModel_fund_141 (by decide) ?_
                      refine tr_iastR (k := 38) I869 R871 (I869.up h_o0) q891 t_a892 (by decide) (by decide) (fun lo hi h => by cases h) (Or.inl (by decide)) d_TrustDeskModel_fund_143 (vp_in_iff.mpr (by have := R871.1 15 _ _ rfl; have := R871.1 16 _ _ rfl; have := R871.1 19 _ _ rfl; omega)) (fun M893 I894 K895 R896 E897 A898 V899 => ?_)
                      have z900 := (V899 15).trans z875
                      have z901 := (V899 16).trans z876
                      have z902 := (V899 17).trans z877
                      have z903 := (V899 19).trans z878
                      have z904 := (V899 22).trans z879
                      have z905 := (V899 24).trans z880
                      have z906 := (V899 27).trans z881
                      have z907 := (V899 32).trans z882
                      have z908 := (V899 49).trans z883
                      have z909 := (A898 5 (by decide) rfl 44).trans z884
                      have z910 := (A898 6 (by decide) rfl 44).trans z885
                      have z911 := (A898 6 (by decide) rfl ((20 + v733).toNatClampNeg)).trans z886
                      have z912 := (A898 43 (by decide) rfl v733.toNatClampNeg)
                      have z913 := (A898 37 (by decide) rfl v733.toNatClampNeg)
                      have K914 : rP M893 o0 := K887.same (sA_a A898 (by decide)) (sF_a V899)
                      have K915 : rB M893 o0 12 := K888.same (sA_a A898 (by decide)) (sF_a V899)
                      have K916 : sA [7] M735 M893 o0 := K889.trans (sA_a A898 (by decide))
                      have K917 : rC M893 o0 ((20 + v733).toNatClampNeg) := K890.same (sA_a A898 (by decide)) (sF_a V899)
                      clear z875 z876 z877 z879 z880 z881 z882 z883 z884 z885 z886
                      refine mv_aload_n d_TrustDeskModel_fund_144 rfl rfl ?_
                      obtain ⟨a919, q918, t_a919⟩ := tm_atR I894 t746 (k := 39) rfl
                      refine tr_getK q918 d_TrustDeskModel_fund_145 f_TrustDeskModel_85_13 ?_
                      refine mv_iload d_TrustDeskModel_fund_148 rfl ?_
                      refine mv_iconst (v := 1) d_TrustDeskModel_fund_150 (by decide) ?_
                      refine tr_iastR (k := 39) I894 R896 (I894.up h_o0) q918 t_a919 (by decide) (by decide) (fun lo hi h => by cases h) (Or.inl (by decide)) d_TrustDeskModel_fund_151 (vp_in_iff.mpr (by have := R896.1 15 _ _ rfl; have := R896.1 16 _ _ rfl; have := R896.1 19 _ _ rfl; omega)) (fun M920 I921 K922 R923 E924 A925 V926 => ?_)
                      have z927 := (V926 15).trans z900
                      have z928 := (V926 16).trans z901
                      have z929 := (V926 17).trans z902
                      have z930 := (V926 19).trans z903
                      have z931 := (V926 22).trans z904
                      have z932 := (V926 24).trans z905
                      have z933 := (V926 27).trans z906
                      have z934 := (V926 32).trans z907
                      have z935 := (V926 49).trans z908
                      have z936 := (A925 5 (by decide) rfl 44).trans z909
                      have z937 := (A925 6 (by decide) rfl 44).trans z910
                      have z938 := (A925 6 (by decide) rfl ((20 + v733).toNatClampNeg)).trans z911
                      have z939 := (A925 43 (by decide) rfl v733.toNatClampNeg).trans z912
                      have z940 := (A925 37 (by decide) rfl v733.toNatClampNeg).trans z913
                      have K941 : rP M920 o0 := K914.same (sA_a A925 (by decide)) (sF_a V926)
                      have K942 : rB M920 o0 12 := K915.same (sA_a A925 (by decide)) (sF_a V926)
                      have K943 : sA [7] M735 M920 o0 := K916.trans (sA_a A925 (by decide))
                      have K944 : rC M920 o0 ((20 + v733).toNatClampNeg) := K917.same (sA_a A925 (by decide)) (sF_a V926)
                      clear z900 z901 z902 z904 z905 z906 z907 z908 z909 z910 z911 z912 z913
                      refine mv_iconst (v := 0) d_TrustDeskModel_fund_152 (by decide) ?_
                      refine mv_istore (lv' := [(6, .int 0), (5, .int v733), (4, .int v742), (3, .int (20 + v733)), (0, .ref o0), (1, .int x1), (2, .int x2)]) d_TrustDeskModel_fund_153 (by decide) rfl ?_
                      have L155_945 : ∀ (k : Nat) (i6_945 : Int32) (T_945 : tm_H) (M_945 : mj_M) (n_945 : Nat), tm_I tm_FT (tm_in w_TrustDeskModel_fund_x) x9 T0 M0 n0 T_945 M_945 n_945 → T_945 o0 = some (0, 13, 0) → 0 ≤ i6_945.toInt → rv M_945 o0 27 = rv M0 o0 27 → rv M_945 o0 32 = rv M0 o0 32 → rv M_945 o0 49 = rv M0 o0 49 → ra M_945 o0 6 (20 + v733).toNatClampNeg = ra M735 o0 6 (20 + v733).toNatClampNeg → ra M_945 o0 37 (v733).toNatClampNeg = -1 → ra M_945 o0 43 (v733).toNatClampNeg ≤ i6_945.toInt → ra M_945 o0 43 (v733).toNatClampNeg ≤ kc M735 o0 (20 * (20 + v733).toNatClampNeg) (i6_945.toInt).toNat → i6_945.toInt ≤ ra M735 o0 6 (20 + v733).toNatClampNeg → (rI M_945 o0) → (rP M_945 o0) → (rB M_945 o0 v733.toNatClampNeg) → (sA [7] M735 M_945 o0) → (rC M_945 o0 ((20 + v733).toNatClampNeg)) → 2147483647 - i6_945.toInt < (k : Int) → mj_V g l kY_TrustDeskModel_fund (d + 27) 155 [(6, .int i6_945), (5, .int v733), (4, .int v742), (3, .int (20 + v733)), (0, .ref o0), (1, .int x1), (2, .int x2)] [] M_945 n_945 0 0 (tm_Q tm_FT (tm_in w_TrustDeskModel_fund_x) x9 T0 M0 n0 (fun r _ M => ∃ v : Int32, r = some (.int v) ∧ rI M o0 ∧ (rC M o0 44) ∧ (rP M o0) ∧ (rB M o0 12) ∧ (rv M0 o0 32 ≤ rv M o0 32))) := by
                        intro k945
                        induction k945 with
                        | zero =>
                          intro i6_945 T_945 M_945 n_945 I_945 h_q0_945 iv0_945 iv1_945 iv2_945 iv3_945 iv4_945 iv5_945 iv6_945 iv7_945 iv8_945 kKR_945 kKP_945 kKB_945 kKY_945 kKC_945 hk945
                          have := mz_hi i6_945
                          have := kKR_945.1 15 _ _ rfl
                          have := kKR_945.1 16 _ _ rfl
                          have := kKR_945.1 19 _ _ rfl
                          omega
                        | succ k945 ih945 =>
                          intro i6_945 T_945 M_945 n_945 I_945 h_q0_945 iv0_945 iv1_945 iv2_945 iv3_945 iv4_945 iv5_945 iv6_945 iv7_945 iv8_945 kKR_945 kKP_945 kKB_945 kKY_945 kKC_945 hk945
                          have := kc_two (M := M735) (o := o0) (b := 20 * (20 + v733).toNatClampNeg) (n := i6_945.toInt.toNat)
                          refine mv_iload d_TrustDeskModel_fund_155 rfl ?_
                          refine mv_aload_n d_TrustDeskModel_fund_157 rfl rfl ?_
                          obtain ⟨a947, q946, t_a947⟩ := tm_atR I_945 h_q0_945 (k := 6) rfl
                          refine tr_getK q946 d_TrustDeskModel_fund_158 f_TrustDeskModel_23_13 ?_
                          refine mv_iload_n d_TrustDeskModel_fund_161 rfl rfl ?_
                          have b948 : (20 + v733 : Int32).toInt = (20 + v733.toInt) := mz_add2 (by decide) rfl (by have := kKR_945.1 15 _ _ rfl; have := kKR_945.1 16 _ _ rfl; have := kKR_945.1 19 _ _ rfl; omega) (by have := kKR_945.1 15 _ _ rfl; have := kKR_945.1 16 _ _ rfl; have := kKR_945.1 19 _ _ rfl; omega)
                          refine tr_ialdR (o := o0) (k := 6) I_945 q946 t_a947 (by decide) d_TrustDeskModel_fund_162 (vp_in_iff.mpr (by have := kKR_945.1 15 _ _ rfl; have := kKR_945.1 16 _ _ rfl; have := kKR_945.1 19 _ _ rfl; omega)) (fun v949 e950 => ?_)
                          have := kKR_945.a (k := 6) rfl ((20 + v733) : Int32).toNatClampNeg
                          have : v949.toInt = ra M_945 o0 6 (20 + v733).toNatClampNeg := e950
                          have := mz_hi i6_945
                          have := mz_hi v949
                          refine mv_icmp_geZ (tgt := 274) (a := i6_945.toInt) (b := v949.toInt) d_TrustDeskModel_fund_163 (by decide) rfl rfl (fun b951 => ?_) (fun b951 => ?_)
                          · refine mv_aload_n d_TrustDeskModel_fund_274 rfl rfl ?_
                            obtain ⟨a953, q952, t_a953⟩ := tm_atR I_945 h_q0_945 (k := 41) rfl
                            refine tr_getK q952 d_TrustDeskModel_fund_275 f_TrustDeskModel_92_13 ?_
                            refine mv_bipush (v := 12) d_TrustDeskModel_fund_278 (by decide) ?_
                            refine mv_iload d_TrustDeskModel_fund_280 rfl ?_
                            refine mv_imul d_TrustDeskModel_fund_282 ?_
                            refine mv_iload d_TrustDeskModel_fund_283 rfl ?_
                            refine mv_iadd d_TrustDeskModel_fund_285 ?_
                            refine mv_ldcw d_TrustDeskModel_fund_286 k_TrustDeskModel_432 ?_
                            have b954 : (12 * v733 : Int32).toInt = (12 * v733.toInt) := mz_mul2 (by decide) rfl (by have := kKR_945.1 15 _ _ rfl; have := kKR_945.1 16 _ _ rfl; have := kKR_945.1 19 _ _ rfl; omega) (by have := kKR_945.1 15 _ _ rfl; have := kKR_945.1 16 _ _ rfl; have := kKR_945.1 19 _ _ rfl; omega)
                            have b955 : ((12 * v733) + v733 : Int32).toInt = ((12 * v733.toInt) + v733.toInt) := mz_add2 b954 rfl (by have := kKR_945.1 15 _ _ rfl; have := kKR_945.1 16 _ _ rfl; have := kKR_945.1 19 _ _ rfl; omega) (by have := kKR_945.1 15 _ _ rfl; have := kKR_945.1 16 _ _ rfl; have := kKR_945.1 19 _ _ rfl; omega)
                            refine tr_iastR (k := 41) I_945 kKR_945 (I_945.up h_o0) q952 t_a953 (by decide) (by decide) (fun lo hi h => by cases h; exact (by decide)) (Or.inl (by decide)) d_TrustDeskModel_fund_289 (vp_in_iff.mpr (by have := kKR_945.1 15 _ _ rfl; have := kKR_945.1 16 _ _ rfl; have := kKR_945.1 19 _ _ rfl; omega)) (fun M956 I957 K958 R959 E960 A961 V962 => ?_)
                            have z963 := (V962 15)
                            have z964 := (V962 16)
                            have z965 := (V962 17)
                            have z966 := (V962 19)
                            have z967 := (V962 22)
                            have z968 := (V962 24)
                            have z969 := (V962 27)
                            have z970 := (V962 32)
                            have z971 := (V962 49)
                            have z972 := (A961 5 (by decide) rfl 44)
                            have z973 := (A961 6 (by decide) rfl 44)
                            have z974 := (A961 6 (by decide) rfl ((20 + v733).toNatClampNeg))
                            have z975 := (A961 43 (by decide) rfl v733.toNatClampNeg)
                            have z976 := (A961 37 (by decide) rfl v733.toNatClampNeg)
                            have K977 : sA [7] M735 M956 o0 := kKY_945.trans (sA_a A961 (by decide))
                            have K978 : rC M956 o0 ((20 + v733).toNatClampNeg) := kKC_945.same (sA_a A961 (by decide)) (sF_a V962)
                            have : kc M735 o0 (20 * (20 + v733).toNatClampNeg) i6_945.toInt.toNat ≤ 6 := by rw [show i6_945.toInt.toNat = (ra M_56 o0 6 44).toNat from by omega]; exact h759 (by omega)
                            refine mv_aload_n d_TrustDeskModel_fund_290 rfl rfl ?_
                            refine mv_dup d_TrustDeskModel_fund_291 rfl ?_
                            obtain ⟨v980, q979⟩ := tm_atI I957 h_q0_945 (k := 32) rfl
                            refine tr_getK q979 d_TrustDeskModel_fund_292 f_TrustDeskModel_415_13 ?_
                            have := R959.f (k := 32) q979 rfl
                            refine mv_iconst (v := 1) d_TrustDeskModel_fund_295 (by decide) ?_
                            refine mv_iadd d_TrustDeskModel_fund_296 ?_
                            have b981 : (v980 + 1 : Int32).toInt = (v980.toInt + 1) := mz_add2 rfl (by decide) (by have := R959.1 15 _ _ rfl; have := R959.1 16 _ _ rfl; have := R959.1 19 _ _ rfl; omega) (by have := R959.1 15 _ _ rfl; have := R959.1 16 _ _ rfl; have := R959.1 19 _ _ rfl; omega)
                            refine tr_putR (k := 32) I957 R959 h_q0_945 rfl ⟨_, rfl⟩ (fun _ h => by cases h) rfl (fun lo hi h => by cases h; have := R959.1 15 _ _ rfl; have := R959.1 16 _ _ rfl; have := R959.1 19 _ _ rfl; exact ⟨by show (0 : Int) ≤ (v980 + 1).toInt; omega, by show (v980 + 1).toInt ≤ (12 : Int); omega⟩) (Or.inl (by decide)) d_TrustDeskModel_fund_297 p_TrustDeskModel_415_13 rfl rfl (fun M982 I983 q984 K985 R986 A987 V988 => ?_)
                            have z989 := (V988 15 (by decide)).trans z963
                            have z990 := (V988 16 (by decide)).trans z964
                            have z991 := (V988 17 (by decide)).trans z965
                            have z992 := (V988 19 (by decide)).trans z966
                            have z993 := (V988 22 (by decide)).trans z967
                            have z994 := (V988 24 (by decide)).trans z968
                            have z995 := (V988 27 (by decide)).trans z969
                            have z996 := (V988 49 (by decide)).trans z971
                            have z997 := (A987 5 (by decide) 44).trans z972
                            have z998 := (A987 6 (by decide) 44).trans z973
                            have z999 := (A987 6 (by decide) ((20 + v733).toNatClampNeg)).trans z974
                            have z1000 := (A987 43 (by decide) v733.toNatClampNeg).trans z975
                            have z1001 := (A987 37 (by decide) v733.toNatClampNeg).trans z976
                            have z1002 : rv M982 o0 32 = (v980 + 1).toInt := tm_rv q984
                            have K1003 : sA [7] M735 M982 o0 := K977.trans (sA_f A987 (by decide))
                            have K1004 : rC M982 o0 44 := rC.fund K978 A987 V988 (by have := mz_nat9 (i := (20 + v733)) (by have := R959.1 15 _ _ rfl; have := R959.1 16 _ _ rfl; have := R959.1 19 _ _ rfl; omega); have := R959.1 15 _ _ rfl; have := R959.1 16 _ _ rfl; have := R959.1 19 _ _ rfl; omega) (by have := R959.1 15 _ _ rfl; have := R959.1 16 _ _ rfl; have := R959.1 19 _ _ rfl; omega) (by have := R959.1 15 _ _ rfl; have := R959.1 16 _ _ rfl; have := R959.1 19 _ _ rfl; omega) (by have := R959.1 15 _ _ rfl; have := R959.1 16 _ _ rfl; have := R959.1 19 _ _ rfl; omega)
                            have h1005 := rPB.fund kKP_945 kKB_945 (by have := mz_nat9 (i := v733) (by have := R959.1 15 _ _ rfl; have := R959.1 16 _ _ rfl; have := R959.1 19 _ _ rfl; omega); have := R959.1 15 _ _ rfl; have := R959.1 16 _ _ rfl; have := R959.1 19 _ _ rfl; omega) E960 (by have := mz_nat9 (i := ((12 * v733) + v733)) (by have := R959.1 15 _ _ rfl; have := R959.1 16 _ _ rfl; have := R959.1 19 _ _ rfl; omega); have := R959.1 15 _ _ rfl; have := R959.1 16 _ _ rfl; have := R959.1 19 _ _ rfl; omega) A961 V962 A987 (by have := R959.1 15 _ _ rfl; have := R959.1 16 _ _ rfl; have := R959.1 19 _ _ rfl; omega) (by have := R959.1 15 _ _ rfl; have := R959.1 16 _ _ rfl; have := R959.1 19 _ _ rfl; omega) (by have := R959.1 15 _ _ rfl; have := R959.1 16 _ _ rfl; have := R959.1 19 _ _ rfl; omega) (by have := R959.1 15 _ _ rfl; have := R959.1 16 _ _ rfl; have := R959.1 19 _ _ rfl; omega)
                            have K1006 : rP M982 o0 := h1005.1
                            have K1007 : rB M982 o0 12 := h1005.2
                            clear z963 z964 z965 z967 z968 z969 z971 z972 z973 z974 z975 z976
                            refine mv_iload d_TrustDeskModel_fund_300 rfl ?_
                            exact mv_iret d_TrustDeskModel_fund_302 rfl (by first | rfl | decide) ⟨_, I983, _, rfl, R986, K1004, K1006, K1007, (by have := R986.1 15 _ _ rfl; have := R986.1 16 _ _ rfl; have := R986.1 19 _ _ rfl; omega)⟩
                          · refine mv_bipush (v := 20) d_TrustDeskModel_fund_166 (by decide) ?_
                            refine mv_iload_n d_TrustDeskModel_fund_168 rfl rfl ?_
                            refine mv_imul d_TrustDeskModel_fund_169 ?_
                            refine mv_iload d_TrustDeskModel_fund_170 rfl ?_
                            refine mv_iadd d_TrustDeskModel_fund_172 ?_
                            refine mv_istore (lv' := [(7, .int ((20 * (20 + v733)) + i6_945)), (6, .int i6_945), (5, .int v733), (4, .int v742), (3, .int (20 + v733)), (0, .ref o0), (1, .int x1), (2, .int x2)]) d_TrustDeskModel_fund_173 (by decide) rfl ?_
                            refine mv_aload_n d_TrustDeskModel_fund_175 rfl rfl ?_
                            obtain ⟨a1009, q1008, t_a1009⟩ := tm_atR I_945 h_q0_945 (k := 7) rfl
                            refine tr_getK q1008 d_TrustDeskModel_fund_176 f_TrustDeskModel_26_13 ?_
                            refine mv_iload d_TrustDeskModel_fund_179 rfl ?_
                            have b1010 : (20 + v733 : Int32).toInt = (20 + v733.toInt) := mz_add2 (by decide) rfl (by have := kKR_945.1 15 _ _ rfl; have := kKR_945.1 16 _ _ rfl; have := kKR_945.1 19 _ _ rfl; omega) (by have := kKR_945.1 15 _ _ rfl; have := kKR_945.1 16 _ _ rfl; have := kKR_945.1 19 _ _ rfl; omega)
                            have b1011 : (20 * (20 + v733) : Int32).toInt = (20 * (20 + v733.toInt)) := mz_mul2 (by decide) b1010 (by have := kKR_945.1 15 _ _ rfl; have := kKR_945.1 16 _ _ rfl; have := kKR_945.1 19 _ _ rfl; omega) (by have := kKR_945.1 15 _ _ rfl; have := kKR_945.1 16 _ _ rfl; have := kKR_945.1 19 _ _ rfl; omega)
                            have b1012 : ((20 * (20 + v733)) + i6_945 : Int32).toInt = ((20 * (20 + v733.toInt)) + i6_945.toInt) := mz_add2 b1011 rfl (by have := kKR_945.1 15 _ _ rfl; have := kKR_945.1 16 _ _ rfl; have := kKR_945.1 19 _ _ rfl; omega) (by have := kKR_945.1 15 _ _ rfl; have := kKR_945.1 16 _ _ rfl; have := kKR_945.1 19 _ _ rfl; omega)
                            refine tr_ialdR (o := o0) (k := 7) I_945 q1008 t_a1009 (by decide) d_TrustDeskModel_fund_181 (vp_in_iff.mpr (by have := kKR_945.1 15 _ _ rfl; have := kKR_945.1 16 _ _ rfl; have := kKR_945.1 19 _ _ rfl; omega)) (fun v1013 e1014 => ?_)
                            have h1015 : ((20 * (20 + v733)) + i6_945).toNatClampNeg = 20 * (20 + v733).toNatClampNeg + i6_945.toInt.toNat := by have := mz_nat9 (i := ((20 * (20 + v733)) + i6_945)) (by have := kKR_945.1 15 _ _ rfl; have := kKR_945.1 16 _ _ rfl; have := kKR_945.1 19 _ _ rfl; omega); have := mz_nat9 (i := (20 + v733)) (by have := kKR_945.1 15 _ _ rfl; have := kKR_945.1 16 _ _ rfl; have := kKR_945.1 19 _ _ rfl; omega); have := kKR_945.1 15 _ _ rfl; have := kKR_945.1 16 _ _ rfl; have := kKR_945.1 19 _ _ rfl; omega
                            have : v1013.toInt = ra M735 o0 7 (20 * (20 + v733).toNatClampNeg + i6_945.toInt.toNat) := by have e9 := kKY_945 7 rfl; rw [← e9, e1014, h1015]
                            refine mv_bipush (v := 7) d_TrustDeskModel_fund_182 (by decide) ?_
                            have := mz_hi v1013
                            refine mv_icmp_neZ (tgt := 204) (a := v1013.toInt) (b := 7) d_TrustDeskModel_fund_184 (by decide) rfl (by decide) (fun b1016 => ?_) (fun b1016 => ?_)
                            · refine mv_aload_n d_TrustDeskModel_fund_204 rfl rfl ?_
                              refine tr_getK (k := 7) q1008 d_TrustDeskModel_fund_205 f_TrustDeskModel_26_13 ?_
                              refine mv_iload d_TrustDeskModel_fund_208 rfl ?_
                              have b1017 : (20 + v733 : Int32).toInt = (20 + v733.toInt) := mz_add2 (by decide) rfl (by have := kKR_945.1 15 _ _ rfl; have := kKR_945.1 16 _ _ rfl; have := kKR_945.1 19 _ _ rfl; omega) (by have := kKR_945.1 15 _ _ rfl; have := kKR_945.1 16 _ _ rfl; have := kKR_945.1 19 _ _ rfl; omega)
                              have b1018 : (20 * (20 + v733) : Int32).toInt = (20 * (20 + v733.toInt)) := mz_mul2 (by decide) b1017 (by have := kKR_945.1 15 _ _ rfl; have := kKR_945.1 16 _ _ rfl; have := kKR_945.1 19 _ _ rfl; omega) (by have := kKR_945.1 15 _ _ rfl; have := kKR_945.1 16 _ _ rfl; have := kKR_945.1 19 _ _ rfl; omega)
                              have b1019 : ((20 * (20 + v733)) + i6_945 : Int32).toInt = ((20 * (20 + v733.toInt)) + i6_945.toInt) := mz_add2 b1018 rfl (by have := kKR_945.1 15 _ _ rfl; have := kKR_945.1 16 _ _ rfl; have := kKR_945.1 19 _ _ rfl; omega) (by have := kKR_945.1 15 _ _ rfl; have := kKR_945.1 16 _ _ rfl; have := kKR_945.1 19 _ _ rfl; omega)
                              refine tr_ialdR (o := o0) (k := 7) I_945 q1008 t_a1009 (by decide) d_TrustDeskModel_fund_210 (vp_in_iff.mpr (by have := kKR_945.1 15 _ _ rfl; have := kKR_945.1 16 _ _ rfl; have := kKR_945.1 19 _ _ rfl; omega)) (fun v1020 e1021 => ?_)
                              have h1022 : ((20 * (20 + v733)) + i6_945).toNatClampNeg = 20 * (20 + v733).toNatClampNeg + i6_945.toInt.toNat := by have := mz_nat9 (i := ((20 * (20 + v733)) + i6_945)) (by have := kKR_945.1 15 _ _ rfl; have := kKR_945.1 16 _ _ rfl; have := kKR_945.1 19 _ _ rfl; omega); have := mz_nat9 (i := (20 + v733)) (by have := kKR_945.1 15 _ _ rfl; have := kKR_945.1 16 _ _ rfl; have := kKR_945.1 19 _ _ rfl; omega); have := kKR_945.1 15 _ _ rfl; have := kKR_945.1 16 _ _ rfl; have := kKR_945.1 19 _ _ rfl; omega
                              have : v1020.toInt = ra M735 o0 7 (20 * (20 + v733).toNatClampNeg + i6_945.toInt.toNat) := by have e9 := kKY_945 7 rfl; rw [← e9, e1021, h1022]
                              refine mv_bipush (v := 9) d_TrustDeskModel_fund_211 (by decide) ?_
                              have := mz_hi v1020
                              refine mv_icmp_neZ (tgt := 244) (a := v1020.toInt) (b := 9) d_TrustDeskModel_fund_213 (by decide) rfl (by decide) (fun b1023 => ?_) (fun b1023 => ?_)
                              · refine mv_aload_n d_TrustDeskModel_fund_244 rfl rfl ?_
                                refine tr_getK (k := 7) q1008 d_TrustDeskModel_fund_245 f_TrustDeskModel_26_13 ?_
                                refine mv_iload d_TrustDeskModel_fund_248 rfl ?_
                                have b1024 : (20 + v733 : Int32).toInt = (20 + v733.toInt) := mz_add2 (by decide) rfl (by have := kKR_945.1 15 _ _ rfl; have := kKR_945.1 16 _ _ rfl; have := kKR_945.1 19 _ _ rfl; omega) (by have := kKR_945.1 15 _ _ rfl; have := kKR_945.1 16 _ _ rfl; have := kKR_945.1 19 _ _ rfl; omega)
                                have b1025 : (20 * (20 + v733) : Int32).toInt = (20 * (20 + v733.toInt)) := mz_mul2 (by decide) b1024 (by have := kKR_945.1 15 _ _ rfl; have := kKR_945.1 16 _ _ rfl; have := kKR_945.1 19 _ _ rfl; omega) (by have := kKR_945.1 15 _ _ rfl; have := kKR_945.1 16 _ _ rfl; have := kKR_945.1 19 _ _ rfl; omega)
                                have b1026 : ((20 * (20 + v733)) + i6_945 : Int32).toInt = ((20 * (20 + v733.toInt)) + i6_945.toInt) := mz_add2 b1025 rfl (by have := kKR_945.1 15 _ _ rfl; have := kKR_945.1 16 _ _ rfl; have := kKR_945.1 19 _ _ rfl; omega) (by have := kKR_945.1 15 _ _ rfl; have := kKR_945.1 16 _ _ rfl; have := kKR_945.1 19 _ _ rfl; omega)
                                refine tr_ialdR (o := o0) (k := 7) I_945 q1008 t_a1009 (by decide) d_TrustDeskModel_fund_250 (vp_in_iff.mpr (by have := kKR_945.1 15 _ _ rfl; have := kKR_945.1 16 _ _ rfl; have := kKR_945.1 19 _ _ rfl; omega)) (fun v1027 e1028 => ?_)
                                have h1029 : ((20 * (20 + v733)) + i6_945).toNatClampNeg = 20 * (20 + v733).toNatClampNeg + i6_945.toInt.toNat := by have := mz_nat9 (i := ((20 * (20 + v733)) + i6_945)) (by have := kKR_945.1 15 _ _ rfl; have := kKR_945.1 16 _ _ rfl; have := kKR_945.1 19 _ _ rfl; omega); have := mz_nat9 (i := (20 + v733)) (by have := kKR_945.1 15 _ _ rfl; have := kKR_945.1 16 _ _ rfl; have := kKR_945.1 19 _ _ rfl; omega); have := kKR_945.1 15 _ _ rfl; have := kKR_945.1 16 _ _ rfl; have := kKR_945.1 19 _ _ rfl; omega
                                have : v1027.toInt = ra M735 o0 7 (20 * (20 + v733).toNatClampNeg + i6_945.toInt.toNat) := by have e9 := kKY_945 7 rfl; rw [← e9, e1028, h1029]
                                refine mv_bipush (v := 8) d_TrustDeskModel_fund_251 (by decide) ?_
                                have := mz_hi v1027
                                refine mv_icmp_neZ (tgt := 268) (a := v1027.toInt) (b := 8) d_TrustDeskModel_fund_253 (by decide) rfl (by decide) (fun b1030 => ?_) (fun b1030 => ?_)
                                · refine mv_iinc (v := (i6_945 + 1)) (lv' := [(6, .int (i6_945 + 1)), (7, .int ((20 * (20 + v733)) + i6_945)), (5, .int v733), (4, .int v742), (3, .int (20 + v733)), (0, .ref o0), (1, .int x1), (2, .int x2)]) d_TrustDeskModel_fund_268 rfl rfl (by decide) rfl ?_
                                  refine mv_goto (tgt := 155) d_TrustDeskModel_fund_271 (by decide) ?_
                                  refine mv_locals (lv' := [(6, .int (i6_945 + 1)), (5, .int v733), (4, .int v742), (3, .int (20 + v733)), (0, .ref o0), (1, .int x1), (2, .int x2)]) (by intro q hq; simp only [List.mem_cons, List.not_mem_nil, or_false] at hq; rcases hq with rfl | rfl | rfl | rfl | rfl | rfl | rfl <;> rfl) ?_
                                  have b1031 : (i6_945 + 1).toInt = i6_945.toInt + 1 := mz_addn 1 1 (by decide) (by have := mz_lo i6_945; omega) (by have := mz_hi i6_945; omega)
                                  exact (ih945 (i6_945 + 1) T_945 M_945 n_945 I_945 h_q0_945 (by have := kKR_945.1 15 _ _ rfl; have := kKR_945.1 16 _ _ rfl; have := kKR_945.1 19 _ _ rfl; first | omega | decide | exact fun h9 => absurd (by decide) h9) (by have := kKR_945.1 15 _ _ rfl; have := kKR_945.1 16 _ _ rfl; have := kKR_945.1 19 _ _ rfl; first | omega | decide | exact fun h9 => absurd (by decide) h9) (by have := kKR_945.1 15 _ _ rfl; have := kKR_945.1 16 _ _ rfl; have := kKR_945.1 19 _ _ rfl; first | omega | decide | exact fun h9 => absurd (by decide) h9) (by have := kKR_945.1 15 _ _ rfl; have := kKR_945.1 16 _ _ rfl; have := kKR_945.1 19 _ _ rfl; first | omega | decide | exact fun h9 => absurd (by decide) h9) (by have := kKR_945.1 15 _ _ rfl; have := kKR_945.1 16 _ _ rfl; have := kKR_945.1 19 _ _ rfl; first | omega | decide | exact fun h9 => absurd (by decide) h9) (by have := kKR_945.1 15 _ _ rfl; have := kKR_945.1 16 _ _ rfl; have := kKR_945.1 19 _ _ rfl; first | omega | decide | exact fun h9 => absurd (by decide) h9) (by have := kKR_945.1 15 _ _ rfl; have := kKR_945.1 16 _ _ rfl; have := kKR_945.1 19 _ _ rfl; first | omega | decide | exact fun h9 => absurd (by decide) h9) (by rw [show (i6_945 + 1 : Int32).toInt.toNat = i6_945.toInt.toNat + 1 from by omega]; have := kKR_945.1 15 _ _ rfl; have := kKR_945.1 16 _ _ rfl; have := kKR_945.1 19 _ _ rfl; omega) (by have := kKR_945.1 15 _ _ rfl; have := kKR_945.1 16 _ _ rfl; have := kKR_945.1 19 _ _ rfl; first | omega | decide | exact fun h9 => absurd (by decide) h9) kKR_945 kKP_945 kKB_945 kKY_945 kKC_945 (by have := kKR_945.1 15 _ _ rfl; have := kKR_945.1 16 _ _ rfl; have := kKR_945.1 19 _ _ rfl; omega))
                                · refine mv_aload_n d_TrustDeskModel_fund_256 rfl rfl ?_
                                  refine mv_iload d_TrustDeskModel_fund_257 rfl ?_
                                  refine mv_iload_n d_TrustDeskModel_fund_259 rfl rfl ?_
                                  refine mv_iload d_TrustDeskModel_fund_260 rfl ?_
                                  refine mv_iconst (v := 0) d_TrustDeskModel_fund_262 (by decide) ?_
                                  refine mv_iconst (v := 0) d_TrustDeskModel_fund_263 (by decide) ?_
                                  refine mv_iconst (v := (-1)) d_TrustDeskModel_fund_264 (by decide) ?_
                                  obtain ⟨_, b1038, -⟩ := I_945.1 _ _ h_q0_945
                                  have b1039 : (20 + v733 : Int32).toInt = (20 + v733.toInt) := mz_add2 (by decide) rfl (by have := kKR_945.1 15 _ _ rfl; have := kKR_945.1 16 _ _ rfl; have := kKR_945.1 19 _ _ rfl; omega) (by have := kKR_945.1 15 _ _ rfl; have := kKR_945.1 16 _ _ rfl; have := kKR_945.1 19 _ _ rfl; omega)
                                  have b1040 : (20 + v733 : Int32).toInt = (20 + v733.toInt) := mz_add2 (by decide) rfl (by have := kKR_945.1 15 _ _ rfl; have := kKR_945.1 16 _ _ rfl; have := kKR_945.1 19 _ _ rfl; omega) (by have := kKR_945.1 15 _ _ rfl; have := kKR_945.1 16 _ _ rfl; have := kKR_945.1 19 _ _ rfl; omega)
                                  have b1041 : (20 * (20 + v733) : Int32).toInt = (20 * (20 + v733.toInt)) := mz_mul2 (by decide) b1040 (by have := kKR_945.1 15 _ _ rfl; have := kKR_945.1 16 _ _ rfl; have := kKR_945.1 19 _ _ rfl; omega) (by have := kKR_945.1 15 _ _ rfl; have := kKR_945.1 16 _ _ rfl; have := kKR_945.1 19 _ _ rfl; omega)
                                  have b1042 : ((20 * (20 + v733)) + i6_945 : Int32).toInt = ((20 * (20 + v733.toInt)) + i6_945.toInt) := mz_add2 b1041 rfl (by have := kKR_945.1 15 _ _ rfl; have := kKR_945.1 16 _ _ rfl; have := kKR_945.1 19 _ _ rfl; omega) (by have := kKR_945.1 15 _ _ rfl; have := kKR_945.1 16 _ _ rfl; have := kKR_945.1 19 _ _ rfl; omega)
                                  have : (0 : Int32).toInt = 0 := by decide
                                  have : (0 : Int32).toInt = 0 := by decide
                                  have : ((-1) : Int32).toInt = (-1) := by decide
                                  refine mv_callV (kc' := 0) (ks' := 0) (As := [.int v733, .int (20 + v733), .int ((20 * (20 + v733)) + i6_945), .int 0, .int 0, .int (-1)]) (st9 := [.int (-1), .int 0, .int 0, .int ((20 * (20 + v733)) + i6_945), .int (20 + v733), .int v733, .ref o0]) d_TrustDeskModel_fund_265 lV_TrustDeskModel_428 b1038 rfl (tc_TrustDeskModel_addEnd_x (d := (d + 26)) (x9 := x9) (o0 := o0) (x1 := v733) (x2 := (20 + v733)) (x3 := ((20 * (20 + v733)) + i6_945)) (x4 := 0) (x5 := 0) (x6 := (-1)) h_q0_945 (by have := kKR_945.1 15 _ _ rfl; have := kKR_945.1 16 _ _ rfl; have := kKR_945.1 19 _ _ rfl; omega) (by have := kKR_945.1 15 _ _ rfl; have := kKR_945.1 16 _ _ rfl; have := kKR_945.1 19 _ _ rfl; omega) (by have := kKR_945.1 15 _ _ rfl; have := kKR_945.1 16 _ _ rfl; have := kKR_945.1 19 _ _ rfl; omega) kKR_945 (by have := kKR_945.1 15 _ _ rfl; have := kKR_945.1 16 _ _ rfl; have := kKR_945.1 19 _ _ rfl; omega) I_945.start) rfl (Nat.le_of_ble_eq_true rfl) (Nat.le_of_ble_eq_true rfl) (Nat.le_of_ble_eq_true rfl) (hst := rfl) (fun b1032r M1033 n1034 b1032 => ?_)
                                  obtain ⟨T1035, J1036, rfl, R1043, f1044⟩ := b1032
                                  have I1037 := I_945.call J1036 (tm_sub (by decide)) (Or.inl rfl)
                                  have t1045 := J1036.up h_q0_945
                                  have z1046 := (rv_c I_945 J1036 (I_945.up h_o0) (k := 15) rfl)
                                  have z1047 := (rv_c I_945 J1036 (I_945.up h_o0) (k := 16) rfl)
                                  have z1048 := (rv_c I_945 J1036 (I_945.up h_o0) (k := 17) rfl)
                                  have z1049 := (rv_c I_945 J1036 (I_945.up h_o0) (k := 19) rfl)
                                  have z1050 := (rv_c I_945 J1036 (I_945.up h_o0) (k := 22) rfl)
                                  have z1051 := (rv_c I_945 J1036 (I_945.up h_o0) (k := 24) rfl)
                                  have z1052 := (rv_c I_945 J1036 (I_945.up h_o0) (k := 27) rfl)
                                  have z1053 := (rv_c I_945 J1036 (I_945.up h_o0) (k := 32) rfl)
                                  have z1054 := (rv_c I_945 J1036 (I_945.up h_o0) (k := 49) rfl)
                                  have z1055 := (ra_call I_945 J1036 (I_945.up h_o0) (k := 5) rfl rfl rfl 44)
                                  have z1056 := (ra_call I_945 J1036 (I_945.up h_o0) (k := 6) rfl rfl rfl 44)
                                  have z1057 := (ra_call I_945 J1036 (I_945.up h_o0) (k := 6) rfl rfl rfl ((20 + v733).toNatClampNeg))
                                  have z1058 := (ra_call I_945 J1036 (I_945.up h_o0) (k := 37) rfl rfl rfl v733.toNatClampNeg)
                                  have K1059 : rP M1033 o0 := kKP_945.same (sA_c I_945 J1036 (I_945.up h_o0) (by decide)) (sF_c I_945 J1036 (I_945.up h_o0) (by decide))
                                  have K1060 : rB M1033 o0 v733.toNatClampNeg := kKB_945.add f1044 (sA_c I_945 J1036 (I_945.up h_o0) (by decide)) (sF_c I_945 J1036 (I_945.up h_o0) (by decide)) (by have := mz_nat9 (i := v733) (by have := kKR_945.1 15 _ _ rfl; have := kKR_945.1 16 _ _ rfl; have := kKR_945.1 19 _ _ rfl; omega); have := kKR_945.1 15 _ _ rfl; have := kKR_945.1 16 _ _ rfl; have := kKR_945.1 19 _ _ rfl; omega)
                                  have K1061 : sA [7] M735 M1033 o0 := kKY_945.trans (sA_c I_945 J1036 (I_945.up h_o0) (by decide))
                                  have K1062 : rC M1033 o0 ((20 + v733).toNatClampNeg) := kKC_945.add kKR_945 f1044 (by have := mz_nat9 (i := v733) (by have := kKR_945.1 15 _ _ rfl; have := kKR_945.1 16 _ _ rfl; have := kKR_945.1 19 _ _ rfl; omega); have := kKR_945.1 15 _ _ rfl; have := kKR_945.1 16 _ _ rfl; have := kKR_945.1 19 _ _ rfl; omega) i6_945.toInt.toNat (by have := kKR_945.1 15 _ _ rfl; have := kKR_945.1 16 _ _ rfl; have := kKR_945.1 19 _ _ rfl; omega) (by have := mz_nat9 (i := i6_945) (by have := kKR_945.1 15 _ _ rfl; have := kKR_945.1 16 _ _ rfl; have := kKR_945.1 19 _ _ rfl; omega); have := kKR_945.1 15 _ _ rfl; have := kKR_945.1 16 _ _ rfl; have := kKR_945.1 19 _ _ rfl; omega) (by rw [show ((20 * (20 + v733)) + i6_945).toInt.toNat = ((20 * (20 + v733)) + i6_945).toNatClampNeg from by have := mz_nat9 (i := ((20 * (20 + v733)) + i6_945)) (by have := kKR_945.1 15 _ _ rfl; have := kKR_945.1 16 _ _ rfl; have := kKR_945.1 19 _ _ rfl; omega); have := kKR_945.1 15 _ _ rfl; have := kKR_945.1 16 _ _ rfl; have := kKR_945.1 19 _ _ rfl; omega]; omega) (sA_c I_945 J1036 (I_945.up h_o0) (by decide)) (sF_c I_945 J1036 (I_945.up h_o0) (by decide))
                                  have := f1044.2.2 v733.toNatClampNeg
                                  rw [if_pos rfl] at this
                                  have q1063 := J1036.keep h_q0_945 (by decide) q946
                                  have t1064 := J1036.up t_a947
                                  have q1065 := J1036.keep h_q0_945 (by decide) q1008
                                  have t1066 := J1036.up t_a1009
                                  refine mv_iinc (v := (i6_945 + 1)) (lv' := [(6, .int (i6_945 + 1)), (7, .int ((20 * (20 + v733)) + i6_945)), (5, .int v733), (4, .int v742), (3, .int (20 + v733)), (0, .ref o0), (1, .int x1), (2, .int x2)]) d_TrustDeskModel_fund_268 rfl rfl (by decide) rfl ?_
                                  refine mv_goto (tgt := 155) d_TrustDeskModel_fund_271 (by decide) ?_
                                  refine mv_locals (lv' := [(6, .int (i6_945 + 1)), (5, .int v733), (4, .int v742), (3, .int (20 + v733)), (0, .ref o0), (1, .int x1), (2, .int x2)]) (by intro q hq; simp only [List.mem_cons, List.not_mem_nil, or_false] at hq; rcases hq with rfl | rfl | rfl | rfl | rfl | rfl | rfl <;> rfl) ?_
                                  have b1067 : (i6_945 + 1).toInt = i6_945.toInt + 1 := mz_addn 1 1 (by decide) (by have := mz_lo i6_945; omega) (by have := mz_hi i6_945; omega)
                                  exact (ih945 (i6_945 + 1) T1035 M1033 n1034 I1037 t1045 (by have := R1043.1 15 _ _ rfl; have := R1043.1 16 _ _ rfl; have := R1043.1 19 _ _ rfl; first | omega | decide | exact fun h9 => absurd (by decide) h9) (by have := R1043.1 15 _ _ rfl; have := R1043.1 16 _ _ rfl; have := R1043.1 19 _ _ rfl; first | omega | decide | exact fun h9 => absurd (by decide) h9) (by have := R1043.1 15 _ _ rfl; have := R1043.1 16 _ _ rfl; have := R1043.1 19 _ _ rfl; first | omega | decide | exact fun h9 => absurd (by decide) h9) (by have := R1043.1 15 _ _ rfl; have := R1043.1 16 _ _ rfl; have := R1043.1 19 _ _ rfl; first | omega | decide | exact fun h9 => absurd (by decide) h9) (by have := R1043.1 15 _ _ rfl; have := R1043.1 16 _ _ rfl; have := R1043.1 19 _ _ rfl; first | omega | decide | exact fun h9 => absurd (by decide) h9) (by have := R1043.1 15 _ _ rfl; have := R1043.1 16 _ _ rfl; have := R1043.1 19 _ _ rfl; first | omega | decide | exact fun h9 => absurd (by decide) h9) (by have := R1043.1 15 _ _ rfl; have := R1043.1 16 _ _ rfl; have := R1043.1 19 _ _ rfl; first | omega | decide | exact fun h9 => absurd (by decide) h9) (by rw [show (i6_945 + 1 : Int32).toInt.toNat = i6_945.toInt.toNat + 1 from by omega]; have := R1043.1 15 _ _ rfl; have := R1043.1 16 _ _ rfl; have := R1043.1 19 _ _ rfl; omega) (by have := R1043.1 15 _ _ rfl; have := R1043.1 16 _ _ rfl; have := R1043.1 19 _ _ rfl; first | omega | decide | exact fun h9 => absurd (by decide) h9) R1043 K1059 K1060 K1061 K1062 (by have := R1043.1 15 _ _ rfl; have := R1043.1 16 _ _ rfl; have := R1043.1 19 _ _ rfl; omega))
                              · refine mv_aload_n d_TrustDeskModel_fund_216 rfl rfl ?_
                                obtain ⟨a1069, q1068, t_a1069⟩ := tm_atR I_945 h_q0_945 (k := 38) rfl
                                refine tr_getK q1068 d_TrustDeskModel_fund_217 f_TrustDeskModel_82_13 ?_
                                refine mv_iload d_TrustDeskModel_fund_220 rfl ?_
                                refine mv_aload_n d_TrustDeskModel_fund_222 rfl rfl ?_
                                obtain ⟨a1071, q1070, t_a1071⟩ := tm_atR I_945 h_q0_945 (k := 8) rfl
                                refine tr_getK q1070 d_TrustDeskModel_fund_223 f_TrustDeskModel_29_13 ?_
                                refine mv_iload d_TrustDeskModel_fund_226 rfl ?_
                                have b1072 : (20 + v733 : Int32).toInt = (20 + v733.toInt) := mz_add2 (by decide) rfl (by have := kKR_945.1 15 _ _ rfl; have := kKR_945.1 16 _ _ rfl; have := kKR_945.1 19 _ _ rfl; omega) (by have := kKR_945.1 15 _ _ rfl; have := kKR_945.1 16 _ _ rfl; have := kKR_945.1 19 _ _ rfl; omega)
                                have b1073 : (20 * (20 + v733) : Int32).toInt = (20 * (20 + v733.toInt)) := mz_mul2 (by decide) b1072 (by have := kKR_945.1 15 _ _ rfl; have := kKR_945.1 16 _ _ rfl; have := kKR_945.1 19 _ _ rfl; omega) (by have := kKR_945.1 15 _ _ rfl; have := kKR_945.1 16 _ _ rfl; have := kKR_945.1 19 _ _ rfl; omega)
                                have b1074 : ((20 * (20 + v733)) + i6_945 : Int32).toInt = ((20 * (20 + v733.toInt)) + i6_945.toInt) := mz_add2 b1073 rfl (by have := kKR_945.1 15 _ _ rfl; have := kKR_945.1 16 _ _ rfl; have := kKR_945.1 19 _ _ rfl; omega) (by have := kKR_945.1 15 _ _ rfl; have := kKR_945.1 16 _ _ rfl; have := kKR_945.1 19 _ _ rfl; omega)
                                refine tr_ialdR (o := o0) (k := 8) I_945 q1070 t_a1071 (by decide) d_TrustDeskModel_fund_228 (vp_in_iff.mpr (by have := kKR_945.1 15 _ _ rfl; have := kKR_945.1 16 _ _ rfl; have := kKR_945.1 19 _ _ rfl; omega)) (fun v1075 e1076 => ?_)
                                have := kKR_945.a (k := 8) rfl (((20 * (20 + v733)) + i6_945) : Int32).toNatClampNeg
                                refine tr_iastR (k := 38) I_945 kKR_945 (I_945.up h_o0) q1068 t_a1069 (by decide) (by decide) (fun lo hi h => by cases h) (Or.inl (by decide)) d_TrustDeskModel_fund_229 (vp_in_iff.mpr (by have := kKR_945.1 15 _ _ rfl; have := kKR_945.1 16 _ _ rfl; have := kKR_945.1 19 _ _ rfl; omega)) (fun M1077 I1078 K1079 R1080 E1081 A1082 V1083 => ?_)
                                have z1084 := (V1083 15)
                                have z1085 := (V1083 16)
                                have z1086 := (V1083 17)
                                have z1087 := (V1083 19)
                                have z1088 := (V1083 22)
                                have z1089 := (V1083 24)
                                have z1090 := (V1083 27)
                                have z1091 := (V1083 32)
                                have z1092 := (V1083 49)
                                have z1093 := (A1082 5 (by decide) rfl 44)
                                have z1094 := (A1082 6 (by decide) rfl 44)
                                have z1095 := (A1082 6 (by decide) rfl ((20 + v733).toNatClampNeg))
                                have z1096 := (A1082 43 (by decide) rfl v733.toNatClampNeg)
                                have z1097 := (A1082 37 (by decide) rfl v733.toNatClampNeg)
                                have K1098 : rP M1077 o0 := kKP_945.same (sA_a A1082 (by decide)) (sF_a V1083)
                                have K1099 : rB M1077 o0 v733.toNatClampNeg := kKB_945.same (sA_a A1082 (by decide)) (sF_a V1083)
                                have K1100 : sA [7] M735 M1077 o0 := kKY_945.trans (sA_a A1082 (by decide))
                                have K1101 : rC M1077 o0 ((20 + v733).toNatClampNeg) := kKC_945.same (sA_a A1082 (by decide)) (sF_a V1083)
                                refine mv_aload_n d_TrustDeskModel_fund_230 rfl rfl ?_
                                obtain ⟨a1103, q1102, t_a1103⟩ := tm_atR I1078 h_q0_945 (k := 39) rfl
                                refine tr_getK q1102 d_TrustDeskModel_fund_231 f_TrustDeskModel_85_13 ?_
                                refine mv_iload d_TrustDeskModel_fund_234 rfl ?_
                                refine mv_aload_n d_TrustDeskModel_fund_236 rfl rfl ?_
                                obtain ⟨a1105, q1104, t_a1105⟩ := tm_atR I1078 h_q0_945 (k := 9) rfl
                                refine tr_getK q1104 d_TrustDeskModel_fund_237 f_TrustDeskModel_32_13 ?_
                                refine mv_iload d_TrustDeskModel_fund_240 rfl ?_
                                have b1106 : (20 + v733 : Int32).toInt = (20 + v733.toInt) := mz_add2 (by decide) rfl (by have := R1080.1 15 _ _ rfl; have := R1080.1 16 _ _ rfl; have := R1080.1 19 _ _ rfl; omega) (by have := R1080.1 15 _ _ rfl; have := R1080.1 16 _ _ rfl; have := R1080.1 19 _ _ rfl; omega)
                                have b1107 : (20 * (20 + v733) : Int32).toInt = (20 * (20 + v733.toInt)) := mz_mul2 (by decide) b1106 (by have := R1080.1 15 _ _ rfl; have := R1080.1 16 _ _ rfl; have := R1080.1 19 _ _ rfl; omega) (by have := R1080.1 15 _ _ rfl; have := R1080.1 16 _ _ rfl; have := R1080.1 19 _ _ rfl; omega)
                                have b1108 : ((20 * (20 + v733)) + i6_945 : Int32).toInt = ((20 * (20 + v733.toInt)) + i6_945.toInt) := mz_add2 b1107 rfl (by have := R1080.1 15 _ _ rfl; have := R1080.1 16 _ _ rfl; have := R1080.1 19 _ _ rfl; omega) (by have := R1080.1 15 _ _ rfl; have := R1080.1 16 _ _ rfl; have := R1080.1 19 _ _ rfl; omega)
                                refine tr_ialdR (o := o0) (k := 9) I1078 q1104 t_a1105 (by decide) d_TrustDeskModel_fund_242 (vp_in_iff.mpr (by have := R1080.1 15 _ _ rfl; have := R1080.1 16 _ _ rfl; have := R1080.1 19 _ _ rfl; omega)) (fun v1109 e1110 => ?_)
                                refine tr_iastR (k := 39) I1078 R1080 (I1078.up h_o0) q1102 t_a1103 (by decide) (by decide) (fun lo hi h => by cases h) (Or.inl (by decide)) d_TrustDeskModel_fund_243 (vp_in_iff.mpr (by have := R1080.1 15 _ _ rfl; have := R1080.1 16 _ _ rfl; have := R1080.1 19 _ _ rfl; omega)) (fun M1111 I1112 K1113 R1114 E1115 A1116 V1117 => ?_)
                                have z1118 := (V1117 15).trans z1084
                                have z1119 := (V1117 16).trans z1085
                                have z1120 := (V1117 17).trans z1086
                                have z1121 := (V1117 19).trans z1087
                                have z1122 := (V1117 22).trans z1088
                                have z1123 := (V1117 24).trans z1089
                                have z1124 := (V1117 27).trans z1090
                                have z1125 := (V1117 32).trans z1091
                                have z1126 := (V1117 49).trans z1092
                                have z1127 := (A1116 5 (by decide) rfl 44).trans z1093
                                have z1128 := (A1116 6 (by decide) rfl 44).trans z1094
                                have z1129 := (A1116 6 (by decide) rfl ((20 + v733).toNatClampNeg)).trans z1095
                                have z1130 := (A1116 43 (by decide) rfl v733.toNatClampNeg).trans z1096
                                have z1131 := (A1116 37 (by decide) rfl v733.toNatClampNeg).trans z1097
                                have K1132 : rP M1111 o0 := K1098.same (sA_a A1116 (by decide)) (sF_a V1117)
                                have K1133 : rB M1111 o0 v733.toNatClampNeg := K1099.same (sA_a A1116 (by decide)) (sF_a V1117)
                                have K1134 : sA [7] M735 M1111 o0 := K1100.trans (sA_a A1116 (by decide))
                                have K1135 : rC M1111 o0 ((20 + v733).toNatClampNeg) := K1101.same (sA_a A1116 (by decide)) (sF_a V1117)
                                clear z1084 z1085 z1086 z1088 z1089 z1090 z1091 z1092 z1093 z1094 z1095 z1096 z1097
                                refine mv_aload_n d_TrustDeskModel_fund_244 rfl rfl ?_
                                refine tr_getK (k := 7) (K1113 _ 13 7 _ (K1079 _ 13 7 _ q1008)) d_TrustDeskModel_fund_245 f_TrustDeskModel_26_13 ?_
                                refine mv_iload d_TrustDeskModel_fund_248 rfl ?_
                                have b1136 : (20 + v733 : Int32).toInt = (20 + v733.toInt) := mz_add2 (by decide) rfl (by have := R1114.1 15 _ _ rfl; have := R1114.1 16 _ _ rfl; have := R1114.1 19 _ _ rfl; omega) (by have := R1114.1 15 _ _ rfl; have := R1114.1 16 _ _ rfl; have := R1114.1 19 _ _ rfl; omega)
                                have b1137 : (20 * (20 + v733) : Int32).toInt = (20 * (20 + v733.toInt)) := mz_mul2 (by decide) b1136 (by have := R1114.1 15 _ _ rfl; have := R1114.1 16 _ _ rfl; have := R1114.1 19 _ _ rfl; omega) (by have := R1114.1 15 _ _ rfl; have := R1114.1 16 _ _ rfl; have := R1114.1 19 _ _ rfl; omega)
                                have b1138 : ((20 * (20 + v733)) + i6_945 : Int32).toInt = ((20 * (20 + v733.toInt)) + i6_945.toInt) := mz_add2 b1137 rfl (by have := R1114.1 15 _ _ rfl; have := R1114.1 16 _ _ rfl; have := R1114.1 19 _ _ rfl; omega) (by have := R1114.1 15 _ _ rfl; have := R1114.1 16 _ _ rfl; have := R1114.1 19 _ _ rfl; omega)
                                refine tr_ialdR (o := o0) (k := 7) I1112 (K1113 _ 13 7 _ (K1079 _ 13 7 _ q1008)) t_a1009 (by decide) d_TrustDeskModel_fund_250 (vp_in_iff.mpr (by have := R1114.1 15 _ _ rfl; have := R1114.1 16 _ _ rfl; have := R1114.1 19 _ _ rfl; omega)) (fun v1139 e1140 => ?_)
                                have h1141 : ((20 * (20 + v733)) + i6_945).toNatClampNeg = 20 * (20 + v733).toNatClampNeg + i6_945.toInt.toNat := by have := mz_nat9 (i := ((20 * (20 + v733)) + i6_945)) (by have := R1114.1 15 _ _ rfl; have := R1114.1 16 _ _ rfl; have := R1114.1 19 _ _ rfl; omega); have := mz_nat9 (i := (20 + v733)) (by have := R1114.1 15 _ _ rfl; have := R1114.1 16 _ _ rfl; have := R1114.1 19 _ _ rfl; omega); have := R1114.1 15 _ _ rfl; have := R1114.1 16 _ _ rfl; have := R1114.1 19 _ _ rfl; omega
                                have : v1139.toInt = ra M735 o0 7 (20 * (20 + v733).toNatClampNeg + i6_945.toInt.toNat) := by have e9 := K1134 7 rfl; rw [← e9, e1140, h1141]
                                refine mv_bipush (v := 8) d_TrustDeskModel_fund_251 (by decide) ?_
                                have := mz_hi v1139
                                refine mv_icmp_neZ (tgt := 268) (a := v1139.toInt) (b := 8) d_TrustDeskModel_fund_253 (by decide) rfl (by decide) (fun b1142 => ?_) (fun b1142 => ?_)
                                · refine mv_iinc (v := (i6_945 + 1)) (lv' := [(6, .int (i6_945 + 1)), (7, .int ((20 * (20 + v733)) + i6_945)), (5, .int v733), (4, .int v742), (3, .int (20 + v733)), (0, .ref o0), (1, .int x1), (2, .int x2)]) d_TrustDeskModel_fund_268 rfl rfl (by decide) rfl ?_
                                  refine mv_goto (tgt := 155) d_TrustDeskModel_fund_271 (by decide) ?_
                                  refine mv_locals (lv' := [(6, .int (i6_945 + 1)), (5, .int v733), (4, .int v742), (3, .int (20 + v733)), (0, .ref o0), (1, .int x1), (2, .int x2)]) (by intro q hq; simp only [List.mem_cons, List.not_mem_nil, or_false] at hq; rcases hq with rfl | rfl | rfl | rfl | rfl | rfl | rfl <;> rfl) ?_
                                  have b1143 : (i6_945 + 1).toInt = i6_945.toInt + 1 := mz_addn 1 1 (by decide) (by have := mz_lo i6_945; omega) (by have := mz_hi i6_945; omega)
                                  exact (ih945 (i6_945 + 1) T_945 M1111 n_945 I1112 h_q0_945 (by have := R1114.1 15 _ _ rfl; have := R1114.1 16 _ _ rfl; have := R1114.1 19 _ _ rfl; first | omega | decide | exact fun h9 => absurd (by decide) h9) (by have := R1114.1 15 _ _ rfl; have := R1114.1 16 _ _ rfl; have := R1114.1 19 _ _ rfl; first | omega | decide | exact fun h9 => absurd (by decide) h9) (by have := R1114.1 15 _ _ rfl; have := R1114.1 16 _ _ rfl; have := R1114.1 19 _ _ rfl; first | omega | decide | exact fun h9 => absurd (by decide) h9) (by have := R1114.1 15 _ _ rfl; have := R1114.1 16 _ _ rfl; have := R1114.1 19 _ _ rfl; first | omega | decide | exact fun h9 => absurd (by decide) h9) (by have := R1114.1 15 _ _ rfl; have := R1114.1 16 _ _ rfl; have := R1114.1 19 _ _ rfl; first | omega | decide | exact fun h9 => absurd (by decide) h9) (by have := R1114.1 15 _ _ rfl; have := R1114.1 16 _ _ rfl; have := R1114.1 19 _ _ rfl; first | omega | decide | exact fun h9 => absurd (by decide) h9) (by have := R1114.1 15 _ _ rfl; have := R1114.1 16 _ _ rfl; have := R1114.1 19 _ _ rfl; first | omega | decide | exact fun h9 => absurd (by decide) h9) (by rw [show (i6_945 + 1 : Int32).toInt.toNat = i6_945.toInt.toNat + 1 from by omega]; have := R1114.1 15 _ _ rfl; have := R1114.1 16 _ _ rfl; have := R1114.1 19 _ _ rfl; omega) (by have := R1114.1 15 _ _ rfl; have := R1114.1 16 _ _ rfl; have := R1114.1 19 _ _ rfl; first | omega | decide | exact fun h9 => absurd (by decide) h9) R1114 K1132 K1133 K1134 K1135 (by have := R1114.1 15 _ _ rfl; have := R1114.1 16 _ _ rfl; have := R1114.1 19 _ _ rfl; omega))
                                · refine mv_aload_n d_TrustDeskModel_fund_256 rfl rfl ?_
                                  refine mv_iload d_TrustDeskModel_fund_257 rfl ?_
                                  refine mv_iload_n d_TrustDeskModel_fund_259 rfl rfl ?_
                                  refine mv_iload d_TrustDeskModel_fund_260 rfl ?_
                                  refine mv_iconst (v := 0) d_TrustDeskModel_fund_262 (by decide) ?_
                                  refine mv_iconst (v := 0) d_TrustDeskModel_fund_263 (by decide) ?_
                                  refine mv_iconst (v := (-1)) d_TrustDeskModel_fund_264 (by decide) ?_
                                  obtain ⟨_, b1150, -⟩ := I1112.1 _ _ h_q0_945
                                  have b1151 : (20 + v733 : Int32).toInt = (20 + v733.toInt) := mz_add2 (by decide) rfl (by have := R1114.1 15 _ _ rfl; have := R1114.1 16 _ _ rfl; have := R1114.1 19 _ _ rfl; omega) (by have := R1114.1 15 _ _ rfl; have := R1114.1 16 _ _ rfl; have := R1114.1 19 _ _ rfl; omega)
                                  have b1152 : (20 + v733 : Int32).toInt = (20 + v733.toInt) := mz_add2 (by decide) rfl (by have := R1114.1 15 _ _ rfl; have := R1114.1 16 _ _ rfl; have := R1114.1 19 _ _ rfl; omega) (by have := R1114.1 15 _ _ rfl; have := R1114.1 16 _ _ rfl; have := R1114.1 19 _ _ rfl; omega)
                                  have b1153 : (20 * (20 + v733) : Int32).toInt = (20 * (20 + v733.toInt)) := mz_mul2 (by decide) b1152 (by have := R1114.1 15 _ _ rfl; have := R1114.1 16 _ _ rfl; have := R1114.1 19 _ _ rfl; omega) (by have := R1114.1 15 _ _ rfl; have := R1114.1 16 _ _ rfl; have := R1114.1 19 _ _ rfl; omega)
                                  have b1154 : ((20 * (20 + v733)) + i6_945 : Int32).toInt = ((20 * (20 + v733.toInt)) + i6_945.toInt) := mz_add2 b1153 rfl (by have := R1114.1 15 _ _ rfl; have := R1114.1 16 _ _ rfl; have := R1114.1 19 _ _ rfl; omega) (by have := R1114.1 15 _ _ rfl; have := R1114.1 16 _ _ rfl; have := R1114.1 19 _ _ rfl; omega)
                                  have : (0 : Int32).toInt = 0 := by decide
                                  have : (0 : Int32).toInt = 0 := by decide
                                  have : ((-1) : Int32).toInt = (-1) := by decide
                                  refine mv_callV (kc' := 0) (ks' := 0) (As := [.int v733, .int (20 + v733), .int ((20 * (20 + v733)) + i6_945), .int 0, .int 0, .int (-1)]) (st9 := [.int (-1), .int 0, .int 0, .int ((20 * (20 + v733)) + i6_945), .int (20 + v733), .int v733, .ref o0]) d_TrustDeskModel_fund_265 lV_TrustDeskModel_428 b1150 rfl (tc_TrustDeskModel_addEnd_x (d := (d + 26)) (x9 := x9) (o0 := o0) (x1 := v733) (x2 := (20 + v733)) (x3 := ((20 * (20 + v733)) + i6_945)) (x4 := 0) (x5 := 0) (x6 := (-1)) h_q0_945 (by have := R1114.1 15 _ _ rfl; have := R1114.1 16 _ _ rfl; have := R1114.1 19 _ _ rfl; omega) (by have := R1114.1 15 _ _ rfl; have := R1114.1 16 _ _ rfl; have := R1114.1 19 _ _ rfl; omega) (by have := R1114.1 15 _ _ rfl; have := R1114.1 16 _ _ rfl; have := R1114.1 19 _ _ rfl; omega) R1114 (by have := R1114.1 15 _ _ rfl; have := R1114.1 16 _ _ rfl; have := R1114.1 19 _ _ rfl; omega) I1112.start) rfl (Nat.le_of_ble_eq_true rfl) (Nat.le_of_ble_eq_true rfl) (Nat.le_of_ble_eq_true rfl) (hst := rfl) (fun b1144r M1145 n1146 b1144 => ?_)
                                  obtain ⟨T1147, J1148, rfl, R1155, f1156⟩ := b1144
                                  have I1149 := I1112.call J1148 (tm_sub (by decide)) (Or.inl rfl)
                                  have t1157 := J1148.up h_q0_945
                                  have z1158 := (rv_c I1112 J1148 (I1112.up h_o0) (k := 15) rfl).trans z1118
                                  have z1159 := (rv_c I1112 J1148 (I1112.up h_o0) (k := 16) rfl).trans z1119
                                  have z1160 := (rv_c I1112 J1148 (I1112.up h_o0) (k := 17) rfl).trans z1120
                                  have z1161 := (rv_c I1112 J1148 (I1112.up h_o0) (k := 19) rfl).trans z1121
                                  have z1162 := (rv_c I1112 J1148 (I1112.up h_o0) (k := 22) rfl).trans z1122
                                  have z1163 := (rv_c I1112 J1148 (I1112.up h_o0) (k := 24) rfl).trans z1123
                                  have z1164 := (rv_c I1112 J1148 (I1112.up h_o0) (k := 27) rfl).trans z1124
                                  have z1165 := (rv_c I1112 J1148 (I1112.up h_o0) (k := 32) rfl).trans z1125
                                  have z1166 := (rv_c I1112 J1148 (I1112.up h_o0) (k := 49) rfl).trans z1126
                                  have z1167 := (ra_call I1112 J1148 (I1112.up h_o0) (k := 5) rfl rfl rfl 44).trans z1127
                                  have z1168 := (ra_call I1112 J1148 (I1112.up h_o0) (k := 6) rfl rfl rfl 44).trans z1128
                                  have z1169 := (ra_call I1112 J1148 (I1112.up h_o0) (k := 6) rfl rfl rfl ((20 + v733).toNatClampNeg)).trans z1129
                                  have z1170 := (ra_call I1112 J1148 (I1112.up h_o0) (k := 37) rfl rfl rfl v733.toNatClampNeg).trans z1131
                                  have K1171 : rP M1145 o0 := K1132.same (sA_c I1112 J1148 (I1112.up h_o0) (by decide)) (sF_c I1112 J1148 (I1112.up h_o0) (by decide))
                                  have K1172 : rB M1145 o0 v733.toNatClampNeg := K1133.add f1156 (sA_c I1112 J1148 (I1112.up h_o0) (by decide)) (sF_c I1112 J1148 (I1112.up h_o0) (by decide)) (by have := mz_nat9 (i := v733) (by have := R1114.1 15 _ _ rfl; have := R1114.1 16 _ _ rfl; have := R1114.1 19 _ _ rfl; omega); have := R1114.1 15 _ _ rfl; have := R1114.1 16 _ _ rfl; have := R1114.1 19 _ _ rfl; omega)
                                  have K1173 : sA [7] M735 M1145 o0 := K1134.trans (sA_c I1112 J1148 (I1112.up h_o0) (by decide))
                                  have K1174 : rC M1145 o0 ((20 + v733).toNatClampNeg) := K1135.add R1114 f1156 (by have := mz_nat9 (i := v733) (by have := R1114.1 15 _ _ rfl; have := R1114.1 16 _ _ rfl; have := R1114.1 19 _ _ rfl; omega); have := R1114.1 15 _ _ rfl; have := R1114.1 16 _ _ rfl; have := R1114.1 19 _ _ rfl; omega) i6_945.toInt.toNat (by have := R1114.1 15 _ _ rfl; have := R1114.1 16 _ _ rfl; have := R1114.1 19 _ _ rfl; omega) (by have := mz_nat9 (i := i6_945) (by have := R1114.1 15 _ _ rfl; have := R1114.1 16 _ _ rfl; have := R1114.1 19 _ _ rfl; omega); have := R1114.1 15 _ _ rfl; have := R1114.1 16 _ _ rfl; have := R1114.1 19 _ _ rfl; omega) (by rw [show ((20 * (20 + v733)) + i6_945).toInt.toNat = ((20 * (20 + v733)) + i6_945).toNatClampNeg from by have := mz_nat9 (i := ((20 * (20 + v733)) + i6_945)) (by have := R1114.1 15 _ _ rfl; have := R1114.1 16 _ _ rfl; have := R1114.1 19 _ _ rfl; omega); have := R1114.1 15 _ _ rfl; have := R1114.1 16 _ _ rfl; have := R1114.1 19 _ _ rfl; omega]; omega) (sA_c I1112 J1148 (I1112.up h_o0) (by decide)) (sF_c I1112 J1148 (I1112.up h_o0) (by decide))
                                  have := f1156.2.2 v733.toNatClampNeg
                                  rw [if_pos rfl] at this
                                  clear z1118 z1119 z1120 z1122 z1123 z1124 z1125 z1126 z1127 z1128 z1129 z1131
                                  have q1175 := J1148.keep h_q0_945 (by decide) (K1113 _ 13 6 _ (K1079 _ 13 6 _ q946))
                                  have t1176 := J1148.up t_a947
                                  have q1177 := J1148.keep h_q0_945 (by decide) (K1113 _ 13 7 _ (K1079 _ 13 7 _ q1008))
                                  have t1178 := J1148.up t_a1009
                                  have q1179 := J1148.keep h_q0_945 (by decide) (K1113 _ 13 38 _ (K1079 _ 13 38 _ q1068))
                                  have t1180 := J1148.up t_a1069
                                  have q1181 := J1148.keep h_q0_945 (by decide) (K1113 _ 13 8 _ (K1079 _ 13 8 _ q1070))
                                  have t1182 := J1148.up t_a1071
                                  have q1183 := J1148.keep h_q0_945 (by decide) (K1113 _ 13 39 _ q1102)
                                  have t1184 := J1148.up t_a1103
                                  have q1185 := J1148.keep h_q0_945 (by decide) (K1113 _ 13 9 _ q1104)
                                  have t1186 := J1148.up t_a1105
                                  refine mv_iinc (v := (i6_945 + 1)) (lv' := [(6, .int (i6_945 + 1)), (7, .int ((20 * (20 + v733)) + i6_945)), (5, .int v733), (4, .int v742), (3, .int (20 + v733)), (0, .ref o0), (1, .int x1), (2, .int x2)]) d_TrustDeskModel_fund_268 rfl rfl (by decide) rfl ?_
                                  refine mv_goto (tgt := 155) d_TrustDeskModel_fund_271 (by decide) ?_
                                  refine mv_locals (lv' := [(6, .int (i6_945 + 1)), (5, .int v733), (4, .int v742), (3, .int (20 + v733)), (0, .ref o0), (1, .int x1), (2, .int x2)]) (by intro q hq; simp only [List.mem_cons, List.not_mem_nil, or_false] at hq; rcases hq with rfl | rfl | rfl | rfl | rfl | rfl | rfl <;> rfl) ?_
                                  have b1187 : (i6_945 + 1).toInt = i6_945.toInt + 1 := mz_addn 1 1 (by decide) (by have := mz_lo i6_945; omega) (by have := mz_hi i6_945; omega)
                                  exact (ih945 (i6_945 + 1) T1147 M1145 n1146 I1149 t1157 (by have := R1155.1 15 _ _ rfl; have := R1155.1 16 _ _ rfl; have := R1155.1 19 _ _ rfl; first | omega | decide | exact fun h9 => absurd (by decide) h9) (by have := R1155.1 15 _ _ rfl; have := R1155.1 16 _ _ rfl; have := R1155.1 19 _ _ rfl; first | omega | decide | exact fun h9 => absurd (by decide) h9) (by have := R1155.1 15 _ _ rfl; have := R1155.1 16 _ _ rfl; have := R1155.1 19 _ _ rfl; first | omega | decide | exact fun h9 => absurd (by decide) h9) (by have := R1155.1 15 _ _ rfl; have := R1155.1 16 _ _ rfl; have := R1155.1 19 _ _ rfl; first | omega | decide | exact fun h9 => absurd (by decide) h9) (by have := R1155.1 15 _ _ rfl; have := R1155.1 16 _ _ rfl; have := R1155.1 19 _ _ rfl; first | omega | decide | exact fun h9 => absurd (by decide) h9) (by have := R1155.1 15 _ _ rfl; have := R1155.1 16 _ _ rfl; have := R1155.1 19 _ _ rfl; first | omega | decide | exact fun h9 => absurd (by decide) h9) (by have := R1155.1 15 _ _ rfl; have := R1155.1 16 _ _ rfl; have := R1155.1 19 _ _ rfl; first | omega | decide | exact fun h9 => absurd (by decide) h9) (by rw [show (i6_945 + 1 : Int32).toInt.toNat = i6_945.toInt.toNat + 1 from by omega]; have := R1155.1 15 _ _ rfl; have := R1155.1 16 _ _ rfl; have := R1155.1 19 _ _ rfl; omega) (by have := R1155.1 15 _ _ rfl; have := R1155.1 16 _ _ rfl; have := R1155.1 19 _ _ rfl; first | omega | decide | exact fun h9 => absurd (by decide) h9) R1155 K1171 K1172 K1173 K1174 (by have := R1155.1 15 _ _ rfl; have := R1155.1 16 _ _ rfl; have := R1155.1 19 _ _ rfl; omega))
                            · refine mv_aload_n d_TrustDeskModel_fund_187 rfl rfl ?_
                              obtain ⟨a1189, q1188, t_a1189⟩ := tm_atR I_945 h_q0_945 (k := 36) rfl
                              refine tr_getK q1188 d_TrustDeskModel_fund_188 f_TrustDeskModel_76_13 ?_
                              refine mv_iload d_TrustDeskModel_fund_191 rfl ?_
                              refine mv_dup2_11 d_TrustDeskModel_fund_193 rfl rfl ?_
                              refine tr_ialdR (o := o0) (k := 36) I_945 q1188 t_a1189 (by decide) d_TrustDeskModel_fund_194 (vp_in_iff.mpr (by have := kKR_945.1 15 _ _ rfl; have := kKR_945.1 16 _ _ rfl; have := kKR_945.1 19 _ _ rfl; omega)) (fun v1190 e1191 => ?_)
                              refine mv_aload_n d_TrustDeskModel_fund_195 rfl rfl ?_
                              obtain ⟨a1193, q1192, t_a1193⟩ := tm_atR I_945 h_q0_945 (k := 8) rfl
                              refine tr_getK q1192 d_TrustDeskModel_fund_196 f_TrustDeskModel_29_13 ?_
                              refine mv_iload d_TrustDeskModel_fund_199 rfl ?_
                              have b1194 : (20 + v733 : Int32).toInt = (20 + v733.toInt) := mz_add2 (by decide) rfl (by have := kKR_945.1 15 _ _ rfl; have := kKR_945.1 16 _ _ rfl; have := kKR_945.1 19 _ _ rfl; omega) (by have := kKR_945.1 15 _ _ rfl; have := kKR_945.1 16 _ _ rfl; have := kKR_945.1 19 _ _ rfl; omega)
                              have b1195 : (20 * (20 + v733) : Int32).toInt = (20 * (20 + v733.toInt)) := mz_mul2 (by decide) b1194 (by have := kKR_945.1 15 _ _ rfl; have := kKR_945.1 16 _ _ rfl; have := kKR_945.1 19 _ _ rfl; omega) (by have := kKR_945.1 15 _ _ rfl; have := kKR_945.1 16 _ _ rfl; have := kKR_945.1 19 _ _ rfl; omega)
                              have b1196 : ((20 * (20 + v733)) + i6_945 : Int32).toInt = ((20 * (20 + v733.toInt)) + i6_945.toInt) := mz_add2 b1195 rfl (by have := kKR_945.1 15 _ _ rfl; have := kKR_945.1 16 _ _ rfl; have := kKR_945.1 19 _ _ rfl; omega) (by have := kKR_945.1 15 _ _ rfl; have := kKR_945.1 16 _ _ rfl; have := kKR_945.1 19 _ _ rfl; omega)
                              refine tr_ialdR (o := o0) (k := 8) I_945 q1192 t_a1193 (by decide) d_TrustDeskModel_fund_201 (vp_in_iff.mpr (by have := kKR_945.1 15 _ _ rfl; have := kKR_945.1 16 _ _ rfl; have := kKR_945.1 19 _ _ rfl; omega)) (fun v1197 e1198 => ?_)
                              have := kKR_945.a (k := 8) rfl (((20 * (20 + v733)) + i6_945) : Int32).toNatClampNeg
                              refine mv_ior d_TrustDeskModel_fund_202 ?_
                              refine tr_iastR (k := 36) I_945 kKR_945 (I_945.up h_o0) q1188 t_a1189 (by decide) (by decide) (fun lo hi h => by cases h) (Or.inl (by decide)) d_TrustDeskModel_fund_203 (vp_in_iff.mpr (by have := kKR_945.1 15 _ _ rfl; have := kKR_945.1 16 _ _ rfl; have := kKR_945.1 19 _ _ rfl; omega)) (fun M1199 I1200 K1201 R1202 E1203 A1204 V1205 => ?_)
                              have z1206 := (V1205 15)
                              have z1207 := (V1205 16)
                              have z1208 := (V1205 17)
                              have z1209 := (V1205 19)
                              have z1210 := (V1205 22)
                              have z1211 := (V1205 24)
                              have z1212 := (V1205 27)
                              have z1213 := (V1205 32)
                              have z1214 := (V1205 49)
                              have z1215 := (A1204 5 (by decide) rfl 44)
                              have z1216 := (A1204 6 (by decide) rfl 44)
                              have z1217 := (A1204 6 (by decide) rfl ((20 + v733).toNatClampNeg))
                              have z1218 := (A1204 43 (by decide) rfl v733.toNatClampNeg)
                              have z1219 := (A1204 37 (by decide) rfl v733.toNatClampNeg)
                              have K1220 : rP M1199 o0 := kKP_945.same (sA_a A1204 (by decide)) (sF_a V1205)
                              have K1221 : rB M1199 o0 v733.toNatClampNeg := kKB_945.same (sA_a A1204 (by decide)) (sF_a V1205)
                              have K1222 : sA [7] M735 M1199 o0 := kKY_945.trans (sA_a A1204 (by decide))
                              have K1223 : rC M1199 o0 ((20 + v733).toNatClampNeg) := kKC_945.same (sA_a A1204 (by decide)) (sF_a V1205)
                              refine mv_aload_n d_TrustDeskModel_fund_204 rfl rfl ?_
                              refine tr_getK (k := 7) (K1201 _ 13 7 _ q1008) d_TrustDeskModel_fund_205 f_TrustDeskModel_26_13 ?_
                              refine mv_iload d_TrustDeskModel_fund_208 rfl ?_
                              have b1224 : (20 + v733 : Int32).toInt = (20 + v733.toInt) := mz_add2 (by decide) rfl (by have := R1202.1 15 _ _ rfl; have := R1202.1 16 _ _ rfl; have := R1202.1 19 _ _ rfl; omega) (by have := R1202.1 15 _ _ rfl; have := R1202.1 16 _ _ rfl; have := R1202.1 19 _ _ rfl; omega)
                              have b1225 : (20 * (20 + v733) : Int32).toInt = (20 * (20 + v733.toInt)) := mz_mul2 (by decide) b1224 (by have := R1202.1 15 _ _ rfl; have := R1202.1 16 _ _ rfl; have := R1202.1 19 _ _ rfl; omega) (by have := R1202.1 15 _ _ rfl; have := R1202.1 16 _ _ rfl; have := R1202.1 19 _ _ rfl; omega)
                              have b1226 : ((20 * (20 + v733)) + i6_945 : Int32).toInt = ((20 * (20 + v733.toInt)) + i6_945.toInt) := mz_add2 b1225 rfl (by have := R1202.1 15 _ _ rfl; have := R1202.1 16 _ _ rfl; have := R1202.1 19 _ _ rfl; omega) (by have := R1202.1 15 _ _ rfl; have := R1202.1 16 _ _ rfl; have := R1202.1 19 _ _ rfl; omega)
                              refine tr_ialdR (o := o0) (k := 7) I1200 (K1201 _ 13 7 _ q1008) t_a1009 (by decide) d_TrustDeskModel_fund_210 (vp_in_iff.mpr (by have := R1202.1 15 _ _ rfl; have := R1202.1 16 _ _ rfl; have := R1202.1 19 _ _ rfl; omega)) (fun v1227 e1228 => ?_)
                              have h1229 : ((20 * (20 + v733)) + i6_945).toNatClampNeg = 20 * (20 + v733).toNatClampNeg + i6_945.toInt.toNat := by have := mz_nat9 (i := ((20 * (20 + v733)) + i6_945)) (by have := R1202.1 15 _ _ rfl; have := R1202.1 16 _ _ rfl; have := R1202.1 19 _ _ rfl; omega); have := mz_nat9 (i := (20 + v733)) (by have := R1202.1 15 _ _ rfl; have := R1202.1 16 _ _ rfl; have := R1202.1 19 _ _ rfl; omega); have := R1202.1 15 _ _ rfl; have := R1202.1 16 _ _ rfl; have := R1202.1 19 _ _ rfl; omega
                              have : v1227.toInt = ra M735 o0 7 (20 * (20 + v733).toNatClampNeg + i6_945.toInt.toNat) := by have e9 := K1222 7 rfl; rw [← e9, e1228, h1229]
                              refine mv_bipush (v := 9) d_TrustDeskModel_fund_211 (by decide) ?_
                              have := mz_hi v1227
                              refine mv_icmp_neZ (tgt := 244) (a := v1227.toInt) (b := 9) d_TrustDeskModel_fund_213 (by decide) rfl (by decide) (fun b1230 => ?_) (fun b1230 => ?_)
                              · refine mv_aload_n d_TrustDeskModel_fund_244 rfl rfl ?_
                                refine tr_getK (k := 7) (K1201 _ 13 7 _ q1008) d_TrustDeskModel_fund_245 f_TrustDeskModel_26_13 ?_
                                refine mv_iload d_TrustDeskModel_fund_248 rfl ?_
                                have b1231 : (20 + v733 : Int32).toInt = (20 + v733.toInt) := mz_add2 (by decide) rfl (by have := R1202.1 15 _ _ rfl; have := R1202.1 16 _ _ rfl; have := R1202.1 19 _ _ rfl; omega) (by have := R1202.1 15 _ _ rfl; have := R1202.1 16 _ _ rfl; have := R1202.1 19 _ _ rfl; omega)
                                have b1232 : (20 * (20 + v733) : Int32).toInt = (20 * (20 + v733.toInt)) := mz_mul2 (by decide) b1231 (by have := R1202.1 15 _ _ rfl; have := R1202.1 16 _ _ rfl; have := R1202.1 19 _ _ rfl; omega) (by have := R1202.1 15 _ _ rfl; have := R1202.1 16 _ _ rfl; have := R1202.1 19 _ _ rfl; omega)
                                have b1233 : ((20 * (20 + v733)) + i6_945 : Int32).toInt = ((20 * (20 + v733.toInt)) + i6_945.toInt) := mz_add2 b1232 rfl (by have := R1202.1 15 _ _ rfl; have := R1202.1 16 _ _ rfl; have := R1202.1 19 _ _ rfl; omega) (by have := R1202.1 15 _ _ rfl; have := R1202.1 16 _ _ rfl; have := R1202.1 19 _ _ rfl; omega)
                                refine tr_ialdR (o := o0) (k := 7) I1200 (K1201 _ 13 7 _ q1008) t_a1009 (by decide) d_TrustDeskModel_fund_250 (vp_in_iff.mpr (by have := R1202.1 15 _ _ rfl; have := R1202.1 16 _ _ rfl; have := R1202.1 19 _ _ rfl; omega)) (fun v1234 e1235 => ?_)
                                have h1236 : ((20 * (20 + v733)) + i6_945).toNatClampNeg = 20 * (20 + v733).toNatClampNeg + i6_945.toInt.toNat := by have := mz_nat9 (i := ((20 * (20 + v733)) + i6_945)) (by have := R1202.1 15 _ _ rfl; have := R1202.1 16 _ _ rfl; have := R1202.1 19 _ _ rfl; omega); have := mz_nat9 (i := (20 + v733)) (by have := R1202.1 15 _ _ rfl; have := R1202.1 16 _ _ rfl; have := R1202.1 19 _ _ rfl; omega); have := R1202.1 15 _ _ rfl; have := R1202.1 16 _ _ rfl; have := R1202.1 19 _ _ rfl; omega
                                have : v1234.toInt = ra M735 o0 7 (20 * (20 + v733).toNatClampNeg + i6_945.toInt.toNat) := by have e9 := K1222 7 rfl; rw [← e9, e1235, h1236]
                                refine mv_bipush (v := 8) d_TrustDeskModel_fund_251 (by decide) ?_
                                have := mz_hi v1234
                                refine mv_icmp_neZ (tgt := 268) (a := v1234.toInt) (b := 8) d_TrustDeskModel_fund_253 (by decide) rfl (by decide) (fun b1237 => ?_) (fun b1237 => ?_)
                                · refine mv_iinc (v := (i6_945 + 1)) (lv' := [(6, .int (i6_945 + 1)), (7, .int ((20 * (20 + v733)) + i6_945)), (5, .int v733), (4, .int v742), (3, .int (20 + v733)), (0, .ref o0), (1, .int x1), (2, .int x2)]) d_TrustDeskModel_fund_268 rfl rfl (by decide) rfl ?_
                                  refine mv_goto (tgt := 155) d_TrustDeskModel_fund_271 (by decide) ?_
                                  refine mv_locals (lv' := [(6, .int (i6_945 + 1)), (5, .int v733), (4, .int v742), (3, .int (20 + v733)), (0, .ref o0), (1, .int x1), (2, .int x2)]) (by intro q hq; simp only [List.mem_cons, List.not_mem_nil, or_false] at hq; rcases hq with rfl | rfl | rfl | rfl | rfl | rfl | rfl <;> rfl) ?_
                                  have b1238 : (i6_945 + 1).toInt = i6_945.toInt + 1 := mz_addn 1 1 (by decide) (by have := mz_lo i6_945; omega) (by have := mz_hi i6_945; omega)
                                  exact (ih945 (i6_945 + 1) T_945 M1199 n_945 I1200 h_q0_945 (by have := R1202.1 15 _ _ rfl; have := R1202.1 16 _ _ rfl; have := R1202.1 19 _ _ rfl; first | omega | decide | exact fun h9 => absurd (by decide) h9) (by have := R1202.1 15 _ _ rfl; have := R1202.1 16 _ _ rfl; have := R1202.1 19 _ _ rfl; first | omega | decide | exact fun h9 => absurd (by decide) h9) (by have := R1202.1 15 _ _ rfl; have := R1202.1 16 _ _ rfl; have := R1202.1 19 _ _ rfl; first | omega | decide | exact fun h9 => absurd (by decide) h9) (by have := R1202.1 15 _ _ rfl; have := R1202.1 16 _ _ rfl; have := R1202.1 19 _ _ rfl; first | omega | decide | exact fun h9 => absurd (by decide) h9) (by have := R1202.1 15 _ _ rfl; have := R1202.1 16 _ _ rfl; have := R1202.1 19 _ _ rfl; first | omega | decide | exact fun h9 => absurd (by decide) h9) (by have := R1202.1 15 _ _ rfl; have := R1202.1 16 _ _ rfl; have := R1202.1 19 _ _ rfl; first | omega | decide | exact fun h9 => absurd (by decide) h9) (by have := R1202.1 15 _ _ rfl; have := R1202.1 16 _ _ rfl; have := R1202.1 19 _ _ rfl; first | omega | decide | exact fun h9 => absurd (by decide) h9) (by rw [show (i6_945 + 1 : Int32).toInt.toNat = i6_945.toInt.toNat + 1 from by omega]; have := R1202.1 15 _ _ rfl; have := R1202.1 16 _ _ rfl; have := R1202.1 19 _ _ rfl; omega) (by have := R1202.1 15 _ _ rfl; have := R1202.1 16 _ _ rfl; have := R1202.1 19 _ _ rfl; first | omega | decide | exact fun h9 => absurd (by decide) h9) R1202 K1220 K1221 K1222 K1223 (by have := R1202.1 15 _ _ rfl; have := R1202.1 16 _ _ rfl; have := R1202.1 19 _ _ rfl; omega))
                                · refine mv_aload_n d_TrustDeskModel_fund_256 rfl rfl ?_
                                  refine mv_iload d_TrustDeskModel_fund_257 rfl ?_
                                  refine mv_iload_n d_TrustDeskModel_fund_259 rfl rfl ?_
                                  refine mv_iload d_TrustDeskModel_fund_260 rfl ?_
                                  refine mv_iconst (v := 0) d_TrustDeskModel_fund_262 (by decide) ?_
                                  refine mv_iconst (v := 0) d_TrustDeskModel_fund_263 (by decide) ?_
                                  refine mv_iconst (v := (-1)) d_TrustDeskModel_fund_264 (by decide) ?_
                                  obtain ⟨_, b1245, -⟩ := I1200.1 _ _ h_q0_945
                                  have b1246 : (20 + v733 : Int32).toInt = (20 + v733.toInt) := mz_add2 (by decide) rfl (by have := R1202.1 15 _ _ rfl; have := R1202.1 16 _ _ rfl; have := R1202.1 19 _ _ rfl; omega) (by have := R1202.1 15 _ _ rfl; have := R1202.1 16 _ _ rfl; have := R1202.1 19 _ _ rfl; omega)
                                  have b1247 : (20 + v733 : Int32).toInt = (20 + v733.toInt) := mz_add2 (by decide) rfl (by have := R1202.1 15 _ _ rfl; have := R1202.1 16 _ _ rfl; have := R1202.1 19 _ _ rfl; omega) (by have := R1202.1 15 _ _ rfl; have := R1202.1 16 _ _ rfl; have := R1202.1 19 _ _ rfl; omega)
                                  have b1248 : (20 * (20 + v733) : Int32).toInt = (20 * (20 + v733.toInt)) := mz_mul2 (by decide) b1247 (by have := R1202.1 15 _ _ rfl; have := R1202.1 16 _ _ rfl; have := R1202.1 19 _ _ rfl; omega) (by have := R1202.1 15 _ _ rfl; have := R1202.1 16 _ _ rfl; have := R1202.1 19 _ _ rfl; omega)
                                  have b1249 : ((20 * (20 + v733)) + i6_945 : Int32).toInt = ((20 * (20 + v733.toInt)) + i6_945.toInt) := mz_add2 b1248 rfl (by have := R1202.1 15 _ _ rfl; have := R1202.1 16 _ _ rfl; have := R1202.1 19 _ _ rfl; omega) (by have := R1202.1 15 _ _ rfl; have := R1202.1 16 _ _ rfl; have := R1202.1 19 _ _ rfl; omega)
                                  have : (0 : Int32).toInt = 0 := by decide
                                  have : (0 : Int32).toInt = 0 := by decide
                                  have : ((-1) : Int32).toInt = (-1) := by decide
                                  refine mv_callV (kc' := 0) (ks' := 0) (As := [.int v733, .int (20 + v733), .int ((20 * (20 + v733)) + i6_945), .int 0, .int 0, .int (-1)]) (st9 := [.int (-1), .int 0, .int 0, .int ((20 * (20 + v733)) + i6_945), .int (20 + v733), .int v733, .ref o0]) d_TrustDeskModel_fund_265 lV_TrustDeskModel_428 b1245 rfl (tc_TrustDeskModel_addEnd_x (d := (d + 26)) (x9 := x9) (o0 := o0) (x1 := v733) (x2 := (20 + v733)) (x3 := ((20 * (20 + v733)) + i6_945)) (x4 := 0) (x5 := 0) (x6 := (-1)) h_q0_945 (by have := R1202.1 15 _ _ rfl; have := R1202.1 16 _ _ rfl; have := R1202.1 19 _ _ rfl; omega) (by have := R1202.1 15 _ _ rfl; have := R1202.1 16 _ _ rfl; have := R1202.1 19 _ _ rfl; omega) (by have := R1202.1 15 _ _ rfl; have := R1202.1 16 _ _ rfl; have := R1202.1 19 _ _ rfl; omega) R1202 (by have := R1202.1 15 _ _ rfl; have := R1202.1 16 _ _ rfl; have := R1202.1 19 _ _ rfl; omega) I1200.start) rfl (Nat.le_of_ble_eq_true rfl) (Nat.le_of_ble_eq_true rfl) (Nat.le_of_ble_eq_true rfl) (hst := rfl) (fun b1239r M1240 n1241 b1239 => ?_)
                                  obtain ⟨T1242, J1243, rfl, R1250, f1251⟩ := b1239
                                  have I1244 := I1200.call J1243 (tm_sub (by decide)) (Or.inl rfl)
                                  have t1252 := J1243.up h_q0_945
                                  have z1253 := (rv_c I1200 J1243 (I1200.up h_o0) (k := 15) rfl).trans z1206
                                  have z1254 := (rv_c I1200 J1243 (I1200.up h_o0) (k := 16) rfl).trans z1207
                                  have z1255 := (rv_c I1200 J1243 (I1200.up h_o0) (k := 17) rfl).trans z1208
                                  have z1256 := (rv_c I1200 J1243 (I1200.up h_o0) (k := 19) rfl).trans z1209
                                  have z1257 := (rv_c I1200 J1243 (I1200.up h_o0) (k := 22) rfl).trans z1210
                                  have z1258 := (rv_c I1200 J1243 (I1200.up h_o0) (k := 24) rfl).trans z1211
                                  have z1259 := (rv_c I1200 J1243 (I1200.up h_o0) (k := 27) rfl).trans z1212
                                  have z1260 := (rv_c I1200 J1243 (I1200.up h_o0) (k := 32) rfl).trans z1213
                                  have z1261 := (rv_c I1200 J1243 (I1200.up h_o0) (k := 49) rfl).trans z1214
                                  have z1262 := (ra_call I1200 J1243 (I1200.up h_o0) (k := 5) rfl rfl rfl 44).trans z1215
                                  have z1263 := (ra_call I1200 J1243 (I1200.up h_o0) (k := 6) rfl rfl rfl 44).trans z1216
                                  have z1264 := (ra_call I1200 J1243 (I1200.up h_o0) (k := 6) rfl rfl rfl ((20 + v733).toNatClampNeg)).trans z1217
                                  have z1265 := (ra_call I1200 J1243 (I1200.up h_o0) (k := 37) rfl rfl rfl v733.toNatClampNeg).trans z1219
                                  have K1266 : rP M1240 o0 := K1220.same (sA_c I1200 J1243 (I1200.up h_o0) (by decide)) (sF_c I1200 J1243 (I1200.up h_o0) (by decide))
                                  have K1267 : rB M1240 o0 v733.toNatClampNeg := K1221.add f1251 (sA_c I1200 J1243 (I1200.up h_o0) (by decide)) (sF_c I1200 J1243 (I1200.up h_o0) (by decide)) (by have := mz_nat9 (i := v733) (by have := R1202.1 15 _ _ rfl; have := R1202.1 16 _ _ rfl; have := R1202.1 19 _ _ rfl; omega); have := R1202.1 15 _ _ rfl; have := R1202.1 16 _ _ rfl; have := R1202.1 19 _ _ rfl; omega)
                                  have K1268 : sA [7] M735 M1240 o0 := K1222.trans (sA_c I1200 J1243 (I1200.up h_o0) (by decide))
                                  have K1269 : rC M1240 o0 ((20 + v733).toNatClampNeg) := K1223.add R1202 f1251 (by have := mz_nat9 (i := v733) (by have := R1202.1 15 _ _ rfl; have := R1202.1 16 _ _ rfl; have := R1202.1 19 _ _ rfl; omega); have := R1202.1 15 _ _ rfl; have := R1202.1 16 _ _ rfl; have := R1202.1 19 _ _ rfl; omega) i6_945.toInt.toNat (by have := R1202.1 15 _ _ rfl; have := R1202.1 16 _ _ rfl; have := R1202.1 19 _ _ rfl; omega) (by have := mz_nat9 (i := i6_945) (by have := R1202.1 15 _ _ rfl; have := R1202.1 16 _ _ rfl; have := R1202.1 19 _ _ rfl; omega); have := R1202.1 15 _ _ rfl; have := R1202.1 16 _ _ rfl; have := R1202.1 19 _ _ rfl; omega) (by rw [show ((20 * (20 + v733)) + i6_945).toInt.toNat = ((20 * (20 + v733)) + i6_945).toNatClampNeg from by have := mz_nat9 (i := ((20 * (20 + v733)) + i6_945)) (by have := R1202.1 15 _ _ rfl; have := R1202.1 16 _ _ rfl; have := R1202.1 19 _ _ rfl; omega); have := R1202.1 15 _ _ rfl; have := R1202.1 16 _ _ rfl; have := R1202.1 19 _ _ rfl; omega]; omega) (sA_c I1200 J1243 (I1200.up h_o0) (by decide)) (sF_c I1200 J1243 (I1200.up h_o0) (by decide))
                                  have := f1251.2.2 v733.toNatClampNeg
                                  rw [if_pos rfl] at this
                                  clear z1206 z1207 z1208 z1210 z1211 z1212 z1213 z1214 z1215 z1216 z1217 z1219
                                  have q1270 := J1243.keep h_q0_945 (by decide) (K1201 _ 13 6 _ q946)
                                  have t1271 := J1243.up t_a947
                                  have q1272 := J1243.keep h_q0_945 (by decide) (K1201 _ 13 7 _ q1008)
                                  have t1273 := J1243.up t_a1009
                                  have q1274 := J1243.keep h_q0_945 (by decide) (K1201 _ 13 36 _ q1188)
                                  have t1275 := J1243.up t_a1189
                                  have q1276 := J1243.keep h_q0_945 (by decide) (K1201 _ 13 8 _ q1192)
                                  have t1277 := J1243.up t_a1193
                                  refine mv_iinc (v := (i6_945 + 1)) (lv' := [(6, .int (i6_945 + 1)), (7, .int ((20 * (20 + v733)) + i6_945)), (5, .int v733), (4, .int v742), (3, .int (20 + v733)), (0, .ref o0), (1, .int x1), (2, .int x2)]) d_TrustDeskModel_fund_268 rfl rfl (by decide) rfl ?_
                                  refine mv_goto (tgt := 155) d_TrustDeskModel_fund_271 (by decide) ?_
                                  refine mv_locals (lv' := [(6, .int (i6_945 + 1)), (5, .int v733), (4, .int v742), (3, .int (20 + v733)), (0, .ref o0), (1, .int x1), (2, .int x2)]) (by intro q hq; simp only [List.mem_cons, List.not_mem_nil, or_false] at hq; rcases hq with rfl | rfl | rfl | rfl | rfl | rfl | rfl <;> rfl) ?_
                                  have b1278 : (i6_945 + 1).toInt = i6_945.toInt + 1 := mz_addn 1 1 (by decide) (by have := mz_lo i6_945; omega) (by have := mz_hi i6_945; omega)
                                  exact (ih945 (i6_945 + 1) T1242 M1240 n1241 I1244 t1252 (by have := R1250.1 15 _ _ rfl; have := R1250.1 16 _ _ rfl; have := R1250.1 19 _ _ rfl; first | omega | decide | exact fun h9 => absurd (by decide) h9) (by have := R1250.1 15 _ _ rfl; have := R1250.1 16 _ _ rfl; have := R1250.1 19 _ _ rfl; first | omega | decide | exact fun h9 => absurd (by decide) h9) (by have := R1250.1 15 _ _ rfl; have := R1250.1 16 _ _ rfl; have := R1250.1 19 _ _ rfl; first | omega | decide | exact fun h9 => absurd (by decide) h9) (by have := R1250.1 15 _ _ rfl; have := R1250.1 16 _ _ rfl; have := R1250.1 19 _ _ rfl; first | omega | decide | exact fun h9 => absurd (by decide) h9) (by have := R1250.1 15 _ _ rfl; have := R1250.1 16 _ _ rfl; have := R1250.1 19 _ _ rfl; first | omega | decide | exact fun h9 => absurd (by decide) h9) (by have := R1250.1 15 _ _ rfl; have := R1250.1 16 _ _ rfl; have := R1250.1 19 _ _ rfl; first | omega | decide | exact fun h9 => absurd (by decide) h9) (by have := R1250.1 15 _ _ rfl; have := R1250.1 16 _ _ rfl; have := R1250.1 19 _ _ rfl; first | omega | decide | exact fun h9 => absurd (by decide) h9) (by rw [show (i6_945 + 1 : Int32).toInt.toNat = i6_945.toInt.toNat + 1 from by omega]; have := R1250.1 15 _ _ rfl; have := R1250.1 16 _ _ rfl; have := R1250.1 19 _ _ rfl; omega) (by have := R1250.1 15 _ _ rfl; have := R1250.1 16 _ _ rfl; have := R1250.1 19 _ _ rfl; first | omega | decide | exact fun h9 => absurd (by decide) h9) R1250 K1266 K1267 K1268 K1269 (by have := R1250.1 15 _ _ rfl; have := R1250.1 16 _ _ rfl; have := R1250.1 19 _ _ rfl; omega))
                              · refine mv_aload_n d_TrustDeskModel_fund_216 rfl rfl ?_
                                obtain ⟨a1280, q1279, t_a1280⟩ := tm_atR I1200 h_q0_945 (k := 38) rfl
                                refine tr_getK q1279 d_TrustDeskModel_fund_217 f_TrustDeskModel_82_13 ?_
                                refine mv_iload d_TrustDeskModel_fund_220 rfl ?_
                                refine mv_aload_n d_TrustDeskModel_fund_222 rfl rfl ?_
                                refine tr_getK (k := 8) (K1201 _ 13 8 _ q1192) d_TrustDeskModel_fund_223 f_TrustDeskModel_29_13 ?_
                                refine mv_iload d_TrustDeskModel_fund_226 rfl ?_
                                have b1281 : (20 + v733 : Int32).toInt = (20 + v733.toInt) := mz_add2 (by decide) rfl (by have := R1202.1 15 _ _ rfl; have := R1202.1 16 _ _ rfl; have := R1202.1 19 _ _ rfl; omega) (by have := R1202.1 15 _ _ rfl; have := R1202.1 16 _ _ rfl; have := R1202.1 19 _ _ rfl; omega)
                                have b1282 : (20 * (20 + v733) : Int32).toInt = (20 * (20 + v733.toInt)) := mz_mul2 (by decide) b1281 (by have := R1202.1 15 _ _ rfl; have := R1202.1 16 _ _ rfl; have := R1202.1 19 _ _ rfl; omega) (by have := R1202.1 15 _ _ rfl; have := R1202.1 16 _ _ rfl; have := R1202.1 19 _ _ rfl; omega)
                                have b1283 : ((20 * (20 + v733)) + i6_945 : Int32).toInt = ((20 * (20 + v733.toInt)) + i6_945.toInt) := mz_add2 b1282 rfl (by have := R1202.1 15 _ _ rfl; have := R1202.1 16 _ _ rfl; have := R1202.1 19 _ _ rfl; omega) (by have := R1202.1 15 _ _ rfl; have := R1202.1 16 _ _ rfl; have := R1202.1 19 _ _ rfl; omega)
                                refine tr_ialdR (o := o0) (k := 8) I1200 (K1201 _ 13 8 _ q1192) t_a1193 (by decide) d_TrustDeskModel_fund_228 (vp_in_iff.mpr (by have := R1202.1 15 _ _ rfl; have := R1202.1 16 _ _ rfl; have := R1202.1 19 _ _ rfl; omega)) (fun v1284 e1285 => ?_)
                                have := R1202.a (k := 8) rfl (((20 * (20 + v733)) + i6_945) : Int32).toNatClampNeg
                                refine tr_iastR (k := 38) I1200 R1202 (I1200.up h_o0) q1279 t_a1280 (by decide) (by decide) (fun lo hi h => by cases h) (Or.inl (by decide)) d_TrustDeskModel_fund_229 (vp_in_iff.mpr (by have := R1202.1 15 _ _ rfl; have := R1202.1 16 _ _ rfl; have := R1202.1 19 _ _ rfl; omega)) (fun M1286 I1287 K1288 R1289 E1290 A1291 V1292 => ?_)
                                have z1293 := (V1292 15).trans z1206
                                have z1294 := (V1292 16).trans z1207
                                have z1295 := (V1292 17).trans z1208
                                have z1296 := (V1292 19).trans z1209
                                have z1297 := (V1292 22).trans z1210
                                have z1298 := (V1292 24).trans z1211
                                have z1299 := (V1292 27).trans z1212
                                have z1300 := (V1292 32).trans z1213
                                have z1301 := (V1292 49).trans z1214
                                have z1302 := (A1291 5 (by decide) rfl 44).trans z1215
                                have z1303 := (A1291 6 (by decide) rfl 44).trans z1216
                                have z1304 := (A1291 6 (by decide) rfl ((20 + v733).toNatClampNeg)).trans z1217
                                have z1305 := (A1291 43 (by decide) rfl v733.toNatClampNeg).trans z1218
                                have z1306 := (A1291 37 (by decide) rfl v733.toNatClampNeg).trans z1219
                                have K1307 : rP M1286 o0 := K1220.same (sA_a A1291 (by decide)) (sF_a V1292)
                                have K1308 : rB M1286 o0 v733.toNatClampNeg := K1221.same (sA_a A1291 (by decide)) (sF_a V1292)
                                have K1309 : sA [7] M735 M1286 o0 := K1222.trans (sA_a A1291 (by decide))
                                have K1310 : rC M1286 o0 ((20 + v733).toNatClampNeg) := K1223.same (sA_a A1291 (by decide)) (sF_a V1292)
                                clear z1206 z1207 z1208 z1210 z1211 z1212 z1213 z1214 z1215 z1216 z1217 z1218 z1219
                                refine mv_aload_n d_TrustDeskModel_fund_230 rfl rfl ?_
                                obtain ⟨a1312, q1311, t_a1312⟩ := tm_atR I1287 h_q0_945 (k := 39) rfl
                                refine tr_getK q1311 d_TrustDeskModel_fund_231 f_TrustDeskModel_85_13 ?_
                                refine mv_iload d_TrustDeskModel_fund_234 rfl ?_
                                refine mv_aload_n d_TrustDeskModel_fund_236 rfl rfl ?_
                                obtain ⟨a1314, q1313, t_a1314⟩ := tm_atR I1287 h_q0_945 (k := 9) rfl
                                refine tr_getK q1313 d_TrustDeskModel_fund_237 f_TrustDeskModel_32_13 ?_
                                refine mv_iload d_TrustDeskModel_fund_240 rfl ?_
                                have b1315 : (20 + v733 : Int32).toInt = (20 + v733.toInt) := mz_add2 (by decide) rfl (by have := R1289.1 15 _ _ rfl; have := R1289.1 16 _ _ rfl; have := R1289.1 19 _ _ rfl; omega) (by have := R1289.1 15 _ _ rfl; have := R1289.1 16 _ _ rfl; have := R1289.1 19 _ _ rfl; omega)
                                have b1316 : (20 * (20 + v733) : Int32).toInt = (20 * (20 + v733.toInt)) := mz_mul2 (by decide) b1315 (by have := R1289.1 15 _ _ rfl; have := R1289.1 16 _ _ rfl; have := R1289.1 19 _ _ rfl; omega) (by have := R1289.1 15 _ _ rfl; have := R1289.1 16 _ _ rfl; have := R1289.1 19 _ _ rfl; omega)
                                have b1317 : ((20 * (20 + v733)) + i6_945 : Int32).toInt = ((20 * (20 + v733.toInt)) + i6_945.toInt) := mz_add2 b1316 rfl (by have := R1289.1 15 _ _ rfl; have := R1289.1 16 _ _ rfl; have := R1289.1 19 _ _ rfl; omega) (by have := R1289.1 15 _ _ rfl; have := R1289.1 16 _ _ rfl; have := R1289.1 19 _ _ rfl; omega)
                                refine tr_ialdR (o := o0) (k := 9) I1287 q1313 t_a1314 (by decide) d_TrustDeskModel_fund_242 (vp_in_iff.mpr (by have := R1289.1 15 _ _ rfl; have := R1289.1 16 _ _ rfl; have := R1289.1 19 _ _ rfl; omega)) (fun v1318 e1319 => ?_)
                                refine tr_iastR (k := 39) I1287 R1289 (I1287.up h_o0) q1311 t_a1312 (by decide) (by decide) (fun lo hi h => by cases h) (Or.inl (by decide)) d_TrustDeskModel_fund_243 (vp_in_iff.mpr (by have := R1289.1 15 _ _ rfl; have := R1289.1 16 _ _ rfl; have := R1289.1 19 _ _ rfl; omega)) (fun M1320 I1321 K1322 R1323 E1324 A1325 V1326 => ?_)
                                have z1327 := (V1326 15).trans z1293
                                have z1328 := (V1326 16).trans z1294
                                have z1329 := (V1326 17).trans z1295
                                have z1330 := (V1326 19).trans z1296
                                have z1331 := (V1326 22).trans z1297
                                have z1332 := (V1326 24).trans z1298
                                have z1333 := (V1326 27).trans z1299
                                have z1334 := (V1326 32).trans z1300
                                have z1335 := (V1326 49).trans z1301
                                have z1336 := (A1325 5 (by decide) rfl 44).trans z1302
                                have z1337 := (A1325 6 (by decide) rfl 44).trans z1303
                                have z1338 := (A1325 6 (by decide) rfl ((20 + v733).toNatClampNeg)).trans z1304
                                have z1339 := (A1325 43 (by decide) rfl v733.toNatClampNeg).trans z1305
                                have z1340 := (A1325 37 (by decide) rfl v733.toNatClampNeg).trans z1306
                                have K1341 : rP M1320 o0 := K1307.same (sA_a A1325 (by decide)) (sF_a V1326)
                                have K1342 : rB M1320 o0 v733.toNatClampNeg := K1308.same (sA_a A1325 (by decide)) (sF_a V1326)
                                have K1343 : sA [7] M735 M1320 o0 := K1309.trans (sA_a A1325 (by decide))
                                have K1344 : rC M1320 o0 ((20 + v733).toNatClampNeg) := K1310.same (sA_a A1325 (by decide)) (sF_a V1326)
                                clear z1293 z1294 z1295 z1297 z1298 z1299 z1300 z1301 z1302 z1303 z1304 z1305 z1306
                                refine mv_aload_n d_TrustDeskModel_fund_244 rfl rfl ?_
                                refine tr_getK (k := 7) (K1322 _ 13 7 _ (K1288 _ 13 7 _ (K1201 _ 13 7 _ q1008))) d_TrustDeskModel_fund_245 f_TrustDeskModel_26_13 ?_
                                refine mv_iload d_TrustDeskModel_fund_248 rfl ?_
                                have b1345 : (20 + v733 : Int32).toInt = (20 + v733.toInt) := mz_add2 (by decide) rfl (by have := R1323.1 15 _ _ rfl; have := R1323.1 16 _ _ rfl; have := R1323.1 19 _ _ rfl; omega) (by have := R1323.1 15 _ _ rfl; have := R1323.1 16 _ _ rfl; have := R1323.1 19 _ _ rfl; omega)
                                have b1346 : (20 * (20 + v733) : Int32).toInt = (20 * (20 + v733.toInt)) := mz_mul2 (by decide) b1345 (by have := R1323.1 15 _ _ rfl; have := R1323.1 16 _ _ rfl; have := R1323.1 19 _ _ rfl; omega) (by have := R1323.1 15 _ _ rfl; have := R1323.1 16 _ _ rfl; have := R1323.1 19 _ _ rfl; omega)
                                have b1347 : ((20 * (20 + v733)) + i6_945 : Int32).toInt = ((20 * (20 + v733.toInt)) + i6_945.toInt) := mz_add2 b1346 rfl (by have := R1323.1 15 _ _ rfl; have := R1323.1 16 _ _ rfl; have := R1323.1 19 _ _ rfl; omega) (by have := R1323.1 15 _ _ rfl; have := R1323.1 16 _ _ rfl; have := R1323.1 19 _ _ rfl; omega)
                                refine tr_ialdR (o := o0) (k := 7) I1321 (K1322 _ 13 7 _ (K1288 _ 13 7 _ (K1201 _ 13 7 _ q1008))) t_a1009 (by decide) d_TrustDeskModel_fund_250 (vp_in_iff.mpr (by have := R1323.1 15 _ _ rfl; have := R1323.1 16 _ _ rfl; have := R1323.1 19 _ _ rfl; omega)) (fun v1348 e1349 => ?_)
                                have h1350 : ((20 * (20 + v733)) + i6_945).toNatClampNeg = 20 * (20 + v733).toNatClampNeg + i6_945.toInt.toNat := by have := mz_nat9 (i := ((20 * (20 + v733)) + i6_945)) (by have := R1323.1 15 _ _ rfl; have := R1323.1 16 _ _ rfl; have := R1323.1 19 _ _ rfl; omega); have := mz_nat9 (i := (20 + v733)) (by have := R1323.1 15 _ _ rfl; have := R1323.1 16 _ _ rfl; have := R1323.1 19 _ _ rfl; omega); have := R1323.1 15 _ _ rfl; have := R1323.1 16 _ _ rfl; have := R1323.1 19 _ _ rfl; omega
                                have : v1348.toInt = ra M735 o0 7 (20 * (20 + v733).toNatClampNeg + i6_945.toInt.toNat) := by have e9 := K1343 7 rfl; rw [← e9, e1349, h1350]
                                refine mv_bipush (v := 8) d_TrustDeskModel_fund_251 (by decide) ?_
                                have := mz_hi v1348
                                refine mv_icmp_neZ (tgt := 268) (a := v1348.toInt) (b := 8) d_TrustDeskModel_fund_253 (by decide) rfl (by decide) (fun b1351 => ?_) (fun b1351 => ?_)
                                · refine mv_iinc (v := (i6_945 + 1)) (lv' := [(6, .int (i6_945 + 1)), (7, .int ((20 * (20 + v733)) + i6_945)), (5, .int v733), (4, .int v742), (3, .int (20 + v733)), (0, .ref o0), (1, .int x1), (2, .int x2)]) d_TrustDeskModel_fund_268 rfl rfl (by decide) rfl ?_
                                  refine mv_goto (tgt := 155) d_TrustDeskModel_fund_271 (by decide) ?_
                                  refine mv_locals (lv' := [(6, .int (i6_945 + 1)), (5, .int v733), (4, .int v742), (3, .int (20 + v733)), (0, .ref o0), (1, .int x1), (2, .int x2)]) (by intro q hq; simp only [List.mem_cons, List.not_mem_nil, or_false] at hq; rcases hq with rfl | rfl | rfl | rfl | rfl | rfl | rfl <;> rfl) ?_
                                  have b1352 : (i6_945 + 1).toInt = i6_945.toInt + 1 := mz_addn 1 1 (by decide) (by have := mz_lo i6_945; omega) (by have := mz_hi i6_945; omega)
                                  exact (ih945 (i6_945 + 1) T_945 M1320 n_945 I1321 h_q0_945 (by have := R1323.1 15 _ _ rfl; have := R1323.1 16 _ _ rfl; have := R1323.1 19 _ _ rfl; first | omega | decide | exact fun h9 => absurd (by decide) h9) (by have := R1323.1 15 _ _ rfl; have := R1323.1 16 _ _ rfl; have := R1323.1 19 _ _ rfl; first | omega | decide | exact fun h9 => absurd (by decide) h9) (by have := R1323.1 15 _ _ rfl; have := R1323.1 16 _ _ rfl; have := R1323.1 19 _ _ rfl; first | omega | decide | exact fun h9 => absurd (by decide) h9) (by have := R1323.1 15 _ _ rfl; have := R1323.1 16 _ _ rfl; have := R1323.1 19 _ _ rfl; first | omega | decide | exact fun h9 => absurd (by decide) h9) (by have := R1323.1 15 _ _ rfl; have := R1323.1 16 _ _ rfl; have := R1323.1 19 _ _ rfl; first | omega | decide | exact fun h9 => absurd (by decide) h9) (by have := R1323.1 15 _ _ rfl; have := R1323.1 16 _ _ rfl; have := R1323.1 19 _ _ rfl; first | omega | decide | exact fun h9 => absurd (by decide) h9) (by have := R1323.1 15 _ _ rfl; have := R1323.1 16 _ _ rfl; have := R1323.1 19 _ _ rfl; first | omega | decide | exact fun h9 => absurd (by decide) h9) (by rw [show (i6_945 + 1 : Int32).toInt.toNat = i6_945.toInt.toNat + 1 from by omega]; have := R1323.1 15 _ _ rfl; have := R1323.1 16 _ _ rfl; have := R1323.1 19 _ _ rfl; omega) (by have := R1323.1 15 _ _ rfl; have := R1323.1 16 _ _ rfl; have := R1323.1 19 _ _ rfl; first | omega | decide | exact fun h9 => absurd (by decide) h9) R1323 K1341 K1342 K1343 K1344 (by have := R1323.1 15 _ _ rfl; have := R1323.1 16 _ _ rfl; have := R1323.1 19 _ _ rfl; omega))
                                · refine mv_aload_n d_TrustDeskModel_fund_256 rfl rfl ?_
                                  refine mv_iload d_TrustDeskModel_fund_257 rfl ?_
                                  refine mv_iload_n d_TrustDeskModel_fund_259 rfl rfl ?_
                                  refine mv_iload d_TrustDeskModel_fund_260 rfl ?_
                                  refine mv_iconst (v := 0) d_TrustDeskModel_fund_262 (by decide) ?_
                                  refine mv_iconst (v := 0) d_TrustDeskModel_fund_263 (by decide) ?_
                                  refine mv_iconst (v := (-1)) d_TrustDeskModel_fund_264 (by decide) ?_
                                  obtain ⟨_, b1359, -⟩ := I1321.1 _ _ h_q0_945
                                  have b1360 : (20 + v733 : Int32).toInt = (20 + v733.toInt) := mz_add2 (by decide) rfl (by have := R1323.1 15 _ _ rfl; have := R1323.1 16 _ _ rfl; have := R1323.1 19 _ _ rfl; omega) (by have := R1323.1 15 _ _ rfl; have := R1323.1 16 _ _ rfl; have := R1323.1 19 _ _ rfl; omega)
                                  have b1361 : (20 + v733 : Int32).toInt = (20 + v733.toInt) := mz_add2 (by decide) rfl (by have := R1323.1 15 _ _ rfl; have := R1323.1 16 _ _ rfl; have := R1323.1 19 _ _ rfl; omega) (by have := R1323.1 15 _ _ rfl; have := R1323.1 16 _ _ rfl; have := R1323.1 19 _ _ rfl; omega)
                                  have b1362 : (20 * (20 + v733) : Int32).toInt = (20 * (20 + v733.toInt)) := mz_mul2 (by decide) b1361 (by have := R1323.1 15 _ _ rfl; have := R1323.1 16 _ _ rfl; have := R1323.1 19 _ _ rfl; omega) (by have := R1323.1 15 _ _ rfl; have := R1323.1 16 _ _ rfl; have := R1323.1 19 _ _ rfl; omega)
                                  have b1363 : ((20 * (20 + v733)) + i6_945 : Int32).toInt = ((20 * (20 + v733.toInt)) + i6_945.toInt) := mz_add2 b1362 rfl (by have := R1323.1 15 _ _ rfl; have := R1323.1 16 _ _ rfl; have := R1323.1 19 _ _ rfl; omega) (by have := R1323.1 15 _ _ rfl; have := R1323.1 16 _ _ rfl; have := R1323.1 19 _ _ rfl; omega)
                                  have : (0 : Int32).toInt = 0 := by decide
                                  have : (0 : Int32).toInt = 0 := by decide
                                  have : ((-1) : Int32).toInt = (-1) := by decide
                                  refine mv_callV (kc' := 0) (ks' := 0) (As := [.int v733, .int (20 + v733), .int ((20 * (20 + v733)) + i6_945), .int 0, .int 0, .int (-1)]) (st9 := [.int (-1), .int 0, .int 0, .int ((20 * (20 + v733)) + i6_945), .int (20 + v733), .int v733, .ref o0]) d_TrustDeskModel_fund_265 lV_TrustDeskModel_428 b1359 rfl (tc_TrustDeskModel_addEnd_x (d := (d + 26)) (x9 := x9) (o0 := o0) (x1 := v733) (x2 := (20 + v733)) (x3 := ((20 * (20 + v733)) + i6_945)) (x4 := 0) (x5 := 0) (x6 := (-1)) h_q0_945 (by have := R1323.1 15 _ _ rfl; have := R1323.1 16 _ _ rfl; have := R1323.1 19 _ _ rfl; omega) (by have := R1323.1 15 _ _ rfl; have := R1323.1 16 _ _ rfl; have := R1323.1 19 _ _ rfl; omega) (by have := R1323.1 15 _ _ rfl; have := R1323.1 16 _ _ rfl; have := R1323.1 19 _ _ rfl; omega) R1323 (by have := R1323.1 15 _ _ rfl; have := R1323.1 16 _ _ rfl; have := R1323.1 19 _ _ rfl; omega) I1321.start) rfl (Nat.le_of_ble_eq_true rfl) (Nat.le_of_ble_eq_true rfl) (Nat.le_of_ble_eq_true rfl) (hst := rfl) (fun b1353r M1354 n1355 b1353 => ?_)
                                  obtain ⟨T1356, J1357, rfl, R1364, f1365⟩ := b1353
                                  have I1358 := I1321.call J1357 (tm_sub (by decide)) (Or.inl rfl)
                                  have t1366 := J1357.up h_q0_945
                                  have z1367 := (rv_c I1321 J1357 (I1321.up h_o0) (k := 15) rfl).trans z1327
                                  have z1368 := (rv_c I1321 J1357 (I1321.up h_o0) (k := 16) rfl).trans z1328
                                  have z1369 := (rv_c I1321 J1357 (I1321.up h_o0) (k := 17) rfl).trans z1329
                                  have z1370 := (rv_c I1321 J1357 (I1321.up h_o0) (k := 19) rfl).trans z1330
                                  have z1371 := (rv_c I1321 J1357 (I1321.up h_o0) (k := 22) rfl).trans z1331
                                  have z1372 := (rv_c I1321 J1357 (I1321.up h_o0) (k := 24) rfl).trans z1332
                                  have z1373 := (rv_c I1321 J1357 (I1321.up h_o0) (k := 27) rfl).trans z1333
                                  have z1374 := (rv_c I1321 J1357 (I1321.up h_o0) (k := 32) rfl).trans z1334
                                  have z1375 := (rv_c I1321 J1357 (I1321.up h_o0) (k := 49) rfl).trans z1335
                                  have z1376 := (ra_call I1321 J1357 (I1321.up h_o0) (k := 5) rfl rfl rfl 44).trans z1336
                                  have z1377 := (ra_call I1321 J1357 (I1321.up h_o0) (k := 6) rfl rfl rfl 44).trans z1337
                                  have z1378 := (ra_call I1321 J1357 (I1321.up h_o0) (k := 6) rfl rfl rfl ((20 + v733).toNatClampNeg)).trans z1338
                                  have z1379 := (ra_call I1321 J1357 (I1321.up h_o0) (k := 37) rfl rfl rfl v733.toNatClampNeg).trans z1340
                                  have K1380 : rP M1354 o0 := K1341.same (sA_c I1321 J1357 (I1321.up h_o0) (by decide)) (sF_c I1321 J1357 (I1321.up h_o0) (by decide))
                                  have K1381 : rB M1354 o0 v733.toNatClampNeg := K1342.add f1365 (sA_c I1321 J1357 (I1321.up h_o0) (by decide)) (sF_c I1321 J1357 (I1321.up h_o0) (by decide)) (by have := mz_nat9 (i := v733) (by have := R1323.1 15 _ _ rfl; have := R1323.1 16 _ _ rfl; have := R1323.1 19 _ _ rfl; omega); have := R1323.1 15 _ _ rfl; have := R1323.1 16 _ _ rfl; have := R1323.1 19 _ _ rfl; omega)
                                  have K1382 : sA [7] M735 M1354 o0 := K1343.trans (sA_c I1321 J1357 (I1321.up h_o0) (by decide))
                                  have K1383 : rC M1354 o0 ((20 + v733).toNatClampNeg) := K1344.add R1323 f1365 (by have := mz_nat9 (i := v733) (by have := R1323.1 15 _ _ rfl; have := R1323.1 16 _ _ rfl; have := R1323.1 19 _ _ rfl; omega); have := R1323.1 15 _ _ rfl; have := R1323.1 16 _ _ rfl; have := R1323.1 19 _ _ rfl; omega) i6_945.toInt.toNat (by have := R1323.1 15 _ _ rfl; have := R1323.1 16 _ _ rfl; have := R1323.1 19 _ _ rfl; omega) (by have := mz_nat9 (i := i6_945) (by have := R1323.1 15 _ _ rfl; have := R1323.1 16 _ _ rfl; have := R1323.1 19 _ _ rfl; omega); have := R1323.1 15 _ _ rfl; have := R1323.1 16 _ _ rfl; have := R1323.1 19 _ _ rfl; omega) (by rw [show ((20 * (20 + v733)) + i6_945).toInt.toNat = ((20 * (20 + v733)) + i6_945).toNatClampNeg from by have := mz_nat9 (i := ((20 * (20 + v733)) + i6_945)) (by have := R1323.1 15 _ _ rfl; have := R1323.1 16 _ _ rfl; have := R1323.1 19 _ _ rfl; omega); have := R1323.1 15 _ _ rfl; have := R1323.1 16 _ _ rfl; have := R1323.1 19 _ _ rfl; omega]; omega) (sA_c I1321 J1357 (I1321.up h_o0) (by decide)) (sF_c I1321 J1357 (I1321.up h_o0) (by decide))
                                  have := f1365.2.2 v733.toNatClampNeg
                                  rw [if_pos rfl] at this
                                  clear z1327 z1328 z1329 z1331 z1332 z1333 z1334 z1335 z1336 z1337 z1338 z1340
                                  have q1384 := J1357.keep h_q0_945 (by decide) (K1322 _ 13 6 _ (K1288 _ 13 6 _ (K1201 _ 13 6 _ q946)))
                                  have t1385 := J1357.up t_a947
                                  have q1386 := J1357.keep h_q0_945 (by decide) (K1322 _ 13 7 _ (K1288 _ 13 7 _ (K1201 _ 13 7 _ q1008)))
                                  have t1387 := J1357.up t_a1009
                                  have q1388 := J1357.keep h_q0_945 (by decide) (K1322 _ 13 36 _ (K1288 _ 13 36 _ (K1201 _ 13 36 _ q1188)))
                                  have t1389 := J1357.up t_a1189
                                  have q1390 := J1357.keep h_q0_945 (by decide) (K1322 _ 13 8 _ (K1288 _ 13 8 _ (K1201 _ 13 8 _ q1192)))
                                  have t1391 := J1357.up t_a1193
                                  have q1392 := J1357.keep h_q0_945 (by decide) (K1322 _ 13 38 _ (K1288 _ 13 38 _ q1279))
                                  have t1393 := J1357.up t_a1280
                                  have q1394 := J1357.keep h_q0_945 (by decide) (K1322 _ 13 39 _ q1311)
                                  have t1395 := J1357.up t_a1312
                                  have q1396 := J1357.keep h_q0_945 (by decide) (K1322 _ 13 9 _ q1313)
                                  have t1397 := J1357.up t_a1314
                                  refine mv_iinc (v := (i6_945 + 1)) (lv' := [(6, .int (i6_945 + 1)), (7, .int ((20 * (20 + v733)) + i6_945)), (5, .int v733), (4, .int v742), (3, .int (20 + v733)), (0, .ref o0), (1, .int x1), (2, .int x2)]) d_TrustDeskModel_fund_268 rfl rfl (by decide) rfl ?_
                                  refine mv_goto (tgt := 155) d_TrustDeskModel_fund_271 (by decide) ?_
                                  refine mv_locals (lv' := [(6, .int (i6_945 + 1)), (5, .int v733), (4, .int v742), (3, .int (20 + v733)), (0, .ref o0), (1, .int x1), (2, .int x2)]) (by intro q hq; simp only [List.mem_cons, List.not_mem_nil, or_false] at hq; rcases hq with rfl | rfl | rfl | rfl | rfl | rfl | rfl <;> rfl) ?_
                                  have b1398 : (i6_945 + 1).toInt = i6_945.toInt + 1 := mz_addn 1 1 (by decide) (by have := mz_lo i6_945; omega) (by have := mz_hi i6_945; omega)
                                  exact (ih945 (i6_945 + 1) T1356 M1354 n1355 I1358 t1366 (by have := R1364.1 15 _ _ rfl; have := R1364.1 16 _ _ rfl; have := R1364.1 19 _ _ rfl; first | omega | decide | exact fun h9 => absurd (by decide) h9) (by have := R1364.1 15 _ _ rfl; have := R1364.1 16 _ _ rfl; have := R1364.1 19 _ _ rfl; first | omega | decide | exact fun h9 => absurd (by decide) h9) (by have := R1364.1 15 _ _ rfl; have := R1364.1 16 _ _ rfl; have := R1364.1 19 _ _ rfl; first | omega | decide | exact fun h9 => absurd (by decide) h9) (by have := R1364.1 15 _ _ rfl; have := R1364.1 16 _ _ rfl; have := R1364.1 19 _ _ rfl; first | omega | decide | exact fun h9 => absurd (by decide) h9) (by have := R1364.1 15 _ _ rfl; have := R1364.1 16 _ _ rfl; have := R1364.1 19 _ _ rfl; first | omega | decide | exact fun h9 => absurd (by decide) h9) (by have := R1364.1 15 _ _ rfl; have := R1364.1 16 _ _ rfl; have := R1364.1 19 _ _ rfl; first | omega | decide | exact fun h9 => absurd (by decide) h9) (by have := R1364.1 15 _ _ rfl; have := R1364.1 16 _ _ rfl; have := R1364.1 19 _ _ rfl; first | omega | decide | exact fun h9 => absurd (by decide) h9) (by rw [show (i6_945 + 1 : Int32).toInt.toNat = i6_945.toInt.toNat + 1 from by omega]; have := R1364.1 15 _ _ rfl; have := R1364.1 16 _ _ rfl; have := R1364.1 19 _ _ rfl; omega) (by have := R1364.1 15 _ _ rfl; have := R1364.1 16 _ _ rfl; have := R1364.1 19 _ _ rfl; first | omega | decide | exact fun h9 => absurd (by decide) h9) R1364 K1380 K1381 K1382 K1383 (by have := R1364.1 15 _ _ rfl; have := R1364.1 16 _ _ rfl; have := R1364.1 19 _ _ rfl; omega))
                      have K1399 : rB M920 o0 v733.toNatClampNeg := K942.to
                      exact mv_less (Nat.zero_le _) (Nat.zero_le _) (L155_945 4294967296 0 T737 M920 n736 I921 t746 (by have := R923.1 15 _ _ rfl; have := R923.1 16 _ _ rfl; have := R923.1 19 _ _ rfl; first | omega | decide | exact fun h9 => absurd (by decide) h9) (by have := R923.1 15 _ _ rfl; have := R923.1 16 _ _ rfl; have := R923.1 19 _ _ rfl; first | omega | decide | exact fun h9 => absurd (by decide) h9) (by have := R923.1 15 _ _ rfl; have := R923.1 16 _ _ rfl; have := R923.1 19 _ _ rfl; first | omega | decide | exact fun h9 => absurd (by decide) h9) (by have := R923.1 15 _ _ rfl; have := R923.1 16 _ _ rfl; have := R923.1 19 _ _ rfl; first | omega | decide | exact fun h9 => absurd (by decide) h9) (by have := R923.1 15 _ _ rfl; have := R923.1 16 _ _ rfl; have := R923.1 19 _ _ rfl; first | omega | decide | exact fun h9 => absurd (by decide) h9) (by have := R923.1 15 _ _ rfl; have := R923.1 16 _ _ rfl; have := R923.1 19 _ _ rfl; first | omega | decide | exact fun h9 => absurd (by decide) h9) (by have := R923.1 15 _ _ rfl; have := R923.1 16 _ _ rfl; have := R923.1 19 _ _ rfl; first | omega | decide | exact fun h9 => absurd (by decide) h9) (by show _ ≤ kc _ _ _ 0; show _ ≤ (0 : Int); have := R923.1 15 _ _ rfl; have := R923.1 16 _ _ rfl; have := R923.1 19 _ _ rfl; omega) (by have := R923.1 15 _ _ rfl; have := R923.1 16 _ _ rfl; have := R923.1 19 _ _ rfl; first | omega | decide | exact fun h9 => absurd (by decide) h9) R923 K941 K1399 K943 K944 (by show (2147483647 - (0 : Int) : Int) < _; decide))
                    · have K1400 : rC M735 o0 44 := K758.1 (by omega)
                      refine mv_iload d_TrustDeskModel_fund_86 rfl ?_
                      exact mv_iret d_TrustDeskModel_fund_88 rfl (by first | rfl | decide) ⟨_, I739, _, rfl, R743, K1400, K756, K757, (by have := R743.1 15 _ _ rfl; have := R743.1 16 _ _ rfl; have := R743.1 19 _ _ rfl; omega)⟩
                  · refine mv_aload_n d_TrustDeskModel_fund_59 rfl rfl ?_
                    obtain ⟨_, b1407, -⟩ := I_56.1 _ _ h_q0_56
                    refine mv_callV (kc' := 0) (ks' := 0) (As := []) (st9 := [.ref o0]) d_TrustDeskModel_fund_60 lV_TrustDeskModel_425 b1407 rfl (tc_TrustDeskModel_readClause_x (d := d) (x9 := x9) (o0 := o0) h_q0_56 kKR_56 kKW_56 (by have := kKR_56.1 15 _ _ rfl; have := kKR_56.1 16 _ _ rfl; have := kKR_56.1 19 _ _ rfl; omega) (by have := kKR_56.1 15 _ _ rfl; have := kKR_56.1 16 _ _ rfl; have := kKR_56.1 19 _ _ rfl; omega) (by have := kKR_56.1 15 _ _ rfl; have := kKR_56.1 16 _ _ rfl; have := kKR_56.1 19 _ _ rfl; omega) (by have := kKR_56.1 15 _ _ rfl; have := kKR_56.1 16 _ _ rfl; have := kKR_56.1 19 _ _ rfl; omega) I_56.start) rfl (Nat.le_of_ble_eq_true rfl) (Nat.le_of_ble_eq_true rfl) (Nat.le_of_ble_eq_true rfl) (hst := rfl) (fun b1401r M1402 n1403 b1401 => ?_)
                    obtain ⟨T1404, J1405, rfl, R1408, f1409, f1410, f1411, f1412, f1413, f1414⟩ := b1401
                    have I1406 := I_56.call J1405 (tm_sub (by decide)) (Or.inl rfl)
                    have t1415 := J1405.up h_q0_56
                    replace f1412 := Im.i f1412
                    replace f1413 := Im.i f1413
                    have z1416 := (rv_c I_56 J1405 (I_56.up h_o0) (k := 27) rfl)
                    have z1417 := (rv_c I_56 J1405 (I_56.up h_o0) (k := 32) rfl)
                    have z1418 := (rv_c I_56 J1405 (I_56.up h_o0) (k := 49) rfl)
                    have K1419 : rC M1402 o0 44 := kKC_56.rO kKR_56 f1410 (sA_c I_56 J1405 (I_56.up h_o0) (by decide)) (sF_c I_56 J1405 (I_56.up h_o0) (by decide))
                    have K1420 : rP M1402 o0 := kKP_56.same (sA_c I_56 J1405 (I_56.up h_o0) (by decide)) (sF_c I_56 J1405 (I_56.up h_o0) (by decide))
                    have K1421 : rB M1402 o0 12 := kKB_56.same (sA_c I_56 J1405 (I_56.up h_o0) (by decide)) (sF_c I_56 J1405 (I_56.up h_o0) (by decide))
                    have K1422 : rW M1402 o0 := f1409
                    refine mv_goto (tgt := 45) d_TrustDeskModel_fund_63 (by decide) ?_
                    exact (ih56 T1404 M1402 n1403 I1406 t1415 (fun w9 => by have u91 : rv M1402 o0 19 = 0 := (by omega); have := f1412.o u91; omega) (by have := R1408.1 15 _ _ rfl; have := R1408.1 16 _ _ rfl; have := R1408.1 19 _ _ rfl; first | omega | decide | exact fun h9 => absurd (by decide) h9) (by have := R1408.1 15 _ _ rfl; have := R1408.1 16 _ _ rfl; have := R1408.1 19 _ _ rfl; first | omega | decide | exact fun h9 => absurd (by decide) h9) (by have := R1408.1 15 _ _ rfl; have := R1408.1 16 _ _ rfl; have := R1408.1 19 _ _ rfl; first | omega | decide | exact fun h9 => absurd (by decide) h9) (by have := R1408.1 15 _ _ rfl; have := R1408.1 16 _ _ rfl; have := R1408.1 19 _ _ rfl; first | omega | decide | exact fun h9 => absurd (by decide) h9) R1408 K1419 K1420 K1421 K1422 (by have := R1408.1 15 _ _ rfl; have := R1408.1 16 _ _ rfl; have := R1408.1 19 _ _ rfl; exact Classical.byCases (fun w9 : rv M1402 o0 19 = 0 => by have u91 : rv M1402 o0 19 = 0 := (by omega); have := f1412.o u91; omega) (fun w9 : ¬ rv M1402 o0 19 = 0 => by omega)))
            exact mv_less (Nat.zero_le _) (Nat.zero_le _) (L45_56 4294967296 T35 M33 n34 I37 t46 (fun w9 => by skip; omega) (by have := R39.1 15 _ _ rfl; have := R39.1 16 _ _ rfl; have := R39.1 19 _ _ rfl; first | omega | decide | exact fun h9 => absurd (by decide) h9) (by have := R39.1 15 _ _ rfl; have := R39.1 16 _ _ rfl; have := R39.1 19 _ _ rfl; first | omega | decide | exact fun h9 => absurd (by decide) h9) (by have := R39.1 15 _ _ rfl; have := R39.1 16 _ _ rfl; have := R39.1 19 _ _ rfl; first | omega | decide | exact fun h9 => absurd (by decide) h9) (by have := R39.1 15 _ _ rfl; have := R39.1 16 _ _ rfl; have := R39.1 19 _ _ rfl; first | omega | decide | exact fun h9 => absurd (by decide) h9) R39 K50 K51 K52 K53 (by have := R39.1 15 _ _ rfl; have := R39.1 16 _ _ rfl; have := R39.1 19 _ _ rfl; omega))
          · refine mv_iconst (v := (-1)) d_TrustDeskModel_fund_38 (by decide) ?_
            exact mv_iret d_TrustDeskModel_fund_39 rfl (by first | rfl | decide) ⟨_, I5, _, rfl, R8, K22, K23, K24, (by have := R8.1 15 _ _ rfl; have := R8.1 16 _ _ rfl; have := R8.1 19 _ _ rfl; omega)⟩
