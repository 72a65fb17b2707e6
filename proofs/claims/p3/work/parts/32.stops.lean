abbrev kY_TrustDeskModel_stops : mj_Y := (⟨"TrustDeskModel", "stops", "(I)I"⟩, prog_14_method_42_code, 5, (Option.some Jvm.ClassFile.FieldType.int))
theorem d_TrustDeskModel_stops_0 : decode kY_TrustDeskModel_stops.2.1 0 = .ok (.aload_n 0, 1) := by decide +kernel
theorem d_TrustDeskModel_stops_1 : decode kY_TrustDeskModel_stops.2.1 1 = .ok (.iconst 0, 1) := by decide +kernel
theorem d_TrustDeskModel_stops_2 : decode kY_TrustDeskModel_stops.2.1 2 = .ok (.putfield 189, 3) := by decide +kernel
theorem p_TrustDeskModel_189_13 : mj_fp "TrustDeskModel" 189 13 14 (kt_TrustDeskModel 14) false := ⟨kR_TrustDeskModel, kF_TrustDeskModel, 72, "TrustDeskModel", kt_TrustDeskModel, rfl, kg_13, by decide, (mj_in1 (List.mem_of_getElem? (i := 1400) (by decide +kernel)) rfl), Or.inl rfl, kto_TrustDeskModel, kn_TrustDeskModel, rfl, rfl, fun h => by cases h⟩
theorem d_TrustDeskModel_stops_5 : decode kY_TrustDeskModel_stops.2.1 5 = .ok (.aload_n 0, 1) := by decide +kernel
theorem d_TrustDeskModel_stops_6 : decode kY_TrustDeskModel_stops.2.1 6 = .ok (.aload_n 0, 1) := by decide +kernel
theorem d_TrustDeskModel_stops_7 : decode kY_TrustDeskModel_stops.2.1 7 = .ok (.invokevirtual 230, 3) := by decide +kernel
theorem d_TrustDeskModel_stops_10 : decode kY_TrustDeskModel_stops.2.1 10 = .ok (.ifCond .eq 7, 3) := by decide +kernel
theorem d_TrustDeskModel_stops_17 : decode kY_TrustDeskModel_stops.2.1 17 = .ok (.aload_n 0, 1) := by decide +kernel
theorem d_TrustDeskModel_stops_18 : decode kY_TrustDeskModel_stops.2.1 18 = .ok (.getfield 227, 3) := by decide +kernel
theorem f_TrustDeskModel_227_13 : mj_fl "TrustDeskModel" 227 13 20 := ⟨kR_TrustDeskModel, kF_TrustDeskModel, 72, "TrustDeskModel", rfl, kg_13, by decide, (mj_in1 (List.mem_of_getElem? (i := 1406) (by decide +kernel)) rfl), Or.inl rfl⟩
theorem d_TrustDeskModel_stops_21 : decode kY_TrustDeskModel_stops.2.1 21 = .ok (.putfield 48, 3) := by decide +kernel
theorem d_TrustDeskModel_stops_24 : decode kY_TrustDeskModel_stops.2.1 24 = .ok (.aload_n 0, 1) := by decide +kernel
theorem d_TrustDeskModel_stops_25 : decode kY_TrustDeskModel_stops.2.1 25 = .ok (.invokevirtual 230, 3) := by decide +kernel
theorem d_TrustDeskModel_stops_28 : decode kY_TrustDeskModel_stops.2.1 28 = .ok (.ifCond .ne 10, 3) := by decide +kernel
theorem d_TrustDeskModel_stops_31 : decode kY_TrustDeskModel_stops.2.1 31 = .ok (.iconst (-1), 1) := by decide +kernel
theorem d_TrustDeskModel_stops_32 : decode kY_TrustDeskModel_stops.2.1 32 = .ok (.aload_n 0, 1) := by decide +kernel
theorem d_TrustDeskModel_stops_33 : decode kY_TrustDeskModel_stops.2.1 33 = .ok (.getfield 224, 3) := by decide +kernel
theorem d_TrustDeskModel_stops_36 : decode kY_TrustDeskModel_stops.2.1 36 = .ok (.isub, 1) := by decide +kernel
theorem d_TrustDeskModel_stops_37 : decode kY_TrustDeskModel_stops.2.1 37 = .ok (.ireturn, 1) := by decide +kernel
theorem d_TrustDeskModel_stops_13 : decode kY_TrustDeskModel_stops.2.1 13 = .ok (.iconst (-1), 1) := by decide +kernel
theorem d_TrustDeskModel_stops_14 : decode kY_TrustDeskModel_stops.2.1 14 = .ok (.goto 7, 3) := by decide +kernel
theorem d_TrustDeskModel_stops_38 : decode kY_TrustDeskModel_stops.2.1 38 = .ok (.aload_n 0, 1) := by decide +kernel
theorem d_TrustDeskModel_stops_39 : decode kY_TrustDeskModel_stops.2.1 39 = .ok (.getfield 20, 3) := by decide +kernel
theorem d_TrustDeskModel_stops_42 : decode kY_TrustDeskModel_stops.2.1 42 = .ok (.iload_n 1, 1) := by decide +kernel
theorem d_TrustDeskModel_stops_43 : decode kY_TrustDeskModel_stops.2.1 43 = .ok (.aload_n 0, 1) := by decide +kernel
theorem d_TrustDeskModel_stops_44 : decode kY_TrustDeskModel_stops.2.1 44 = .ok (.getfield 20, 3) := by decide +kernel
theorem d_TrustDeskModel_stops_47 : decode kY_TrustDeskModel_stops.2.1 47 = .ok (.bipush 44, 2) := by decide +kernel
theorem d_TrustDeskModel_stops_49 : decode kY_TrustDeskModel_stops.2.1 49 = .ok (.iaload, 1) := by decide +kernel
theorem d_TrustDeskModel_stops_50 : decode kY_TrustDeskModel_stops.2.1 50 = .ok (.iastore, 1) := by decide +kernel
theorem d_TrustDeskModel_stops_51 : decode kY_TrustDeskModel_stops.2.1 51 = .ok (.aload_n 0, 1) := by decide +kernel
theorem d_TrustDeskModel_stops_52 : decode kY_TrustDeskModel_stops.2.1 52 = .ok (.getfield 23, 3) := by decide +kernel
theorem d_TrustDeskModel_stops_55 : decode kY_TrustDeskModel_stops.2.1 55 = .ok (.iload_n 1, 1) := by decide +kernel
theorem d_TrustDeskModel_stops_56 : decode kY_TrustDeskModel_stops.2.1 56 = .ok (.aload_n 0, 1) := by decide +kernel
theorem d_TrustDeskModel_stops_57 : decode kY_TrustDeskModel_stops.2.1 57 = .ok (.getfield 23, 3) := by decide +kernel
theorem d_TrustDeskModel_stops_60 : decode kY_TrustDeskModel_stops.2.1 60 = .ok (.bipush 44, 2) := by decide +kernel
theorem d_TrustDeskModel_stops_62 : decode kY_TrustDeskModel_stops.2.1 62 = .ok (.iaload, 1) := by decide +kernel
theorem d_TrustDeskModel_stops_63 : decode kY_TrustDeskModel_stops.2.1 63 = .ok (.iastore, 1) := by decide +kernel
theorem d_TrustDeskModel_stops_64 : decode kY_TrustDeskModel_stops.2.1 64 = .ok (.iconst 0, 1) := by decide +kernel
theorem d_TrustDeskModel_stops_65 : decode kY_TrustDeskModel_stops.2.1 65 = .ok (.istore_n 2, 1) := by decide +kernel
theorem d_TrustDeskModel_stops_66 : decode kY_TrustDeskModel_stops.2.1 66 = .ok (.iload_n 2, 1) := by decide +kernel
theorem d_TrustDeskModel_stops_67 : decode kY_TrustDeskModel_stops.2.1 67 = .ok (.aload_n 0, 1) := by decide +kernel
theorem d_TrustDeskModel_stops_68 : decode kY_TrustDeskModel_stops.2.1 68 = .ok (.getfield 20, 3) := by decide +kernel
theorem d_TrustDeskModel_stops_71 : decode kY_TrustDeskModel_stops.2.1 71 = .ok (.bipush 44, 2) := by decide +kernel
theorem d_TrustDeskModel_stops_73 : decode kY_TrustDeskModel_stops.2.1 73 = .ok (.iaload, 1) := by decide +kernel
theorem d_TrustDeskModel_stops_74 : decode kY_TrustDeskModel_stops.2.1 74 = .ok (.if_icmp .ge 31, 3) := by decide +kernel
theorem d_TrustDeskModel_stops_105 : decode kY_TrustDeskModel_stops.2.1 105 = .ok (.iconst 0, 1) := by decide +kernel
theorem d_TrustDeskModel_stops_106 : decode kY_TrustDeskModel_stops.2.1 106 = .ok (.istore_n 2, 1) := by decide +kernel
theorem d_TrustDeskModel_stops_107 : decode kY_TrustDeskModel_stops.2.1 107 = .ok (.iload_n 2, 1) := by decide +kernel
theorem d_TrustDeskModel_stops_108 : decode kY_TrustDeskModel_stops.2.1 108 = .ok (.aload_n 0, 1) := by decide +kernel
theorem d_TrustDeskModel_stops_109 : decode kY_TrustDeskModel_stops.2.1 109 = .ok (.getfield 23, 3) := by decide +kernel
theorem d_TrustDeskModel_stops_112 : decode kY_TrustDeskModel_stops.2.1 112 = .ok (.bipush 44, 2) := by decide +kernel
theorem d_TrustDeskModel_stops_114 : decode kY_TrustDeskModel_stops.2.1 114 = .ok (.iaload, 1) := by decide +kernel
theorem d_TrustDeskModel_stops_115 : decode kY_TrustDeskModel_stops.2.1 115 = .ok (.if_icmp .ge 101, 3) := by decide +kernel
theorem d_TrustDeskModel_stops_216 : decode kY_TrustDeskModel_stops.2.1 216 = .ok (.iconst 0, 1) := by decide +kernel
theorem d_TrustDeskModel_stops_217 : decode kY_TrustDeskModel_stops.2.1 217 = .ok (.ireturn, 1) := by decide +kernel
theorem d_TrustDeskModel_stops_118 : decode kY_TrustDeskModel_stops.2.1 118 = .ok (.sipush 880, 3) := by decide +kernel
theorem d_TrustDeskModel_stops_121 : decode kY_TrustDeskModel_stops.2.1 121 = .ok (.iload_n 2, 1) := by decide +kernel
theorem d_TrustDeskModel_stops_122 : decode kY_TrustDeskModel_stops.2.1 122 = .ok (.iadd, 1) := by decide +kernel
theorem d_TrustDeskModel_stops_123 : decode kY_TrustDeskModel_stops.2.1 123 = .ok (.istore_n 3, 1) := by decide +kernel
theorem d_TrustDeskModel_stops_124 : decode kY_TrustDeskModel_stops.2.1 124 = .ok (.bipush 20, 2) := by decide +kernel
theorem d_TrustDeskModel_stops_126 : decode kY_TrustDeskModel_stops.2.1 126 = .ok (.iload_n 1, 1) := by decide +kernel
theorem d_TrustDeskModel_stops_127 : decode kY_TrustDeskModel_stops.2.1 127 = .ok (.imul, 1) := by decide +kernel
theorem d_TrustDeskModel_stops_128 : decode kY_TrustDeskModel_stops.2.1 128 = .ok (.iload_n 2, 1) := by decide +kernel
theorem d_TrustDeskModel_stops_129 : decode kY_TrustDeskModel_stops.2.1 129 = .ok (.iadd, 1) := by decide +kernel
theorem d_TrustDeskModel_stops_130 : decode kY_TrustDeskModel_stops.2.1 130 = .ok (.istore 4, 2) := by decide +kernel
theorem d_TrustDeskModel_stops_132 : decode kY_TrustDeskModel_stops.2.1 132 = .ok (.aload_n 0, 1) := by decide +kernel
theorem d_TrustDeskModel_stops_133 : decode kY_TrustDeskModel_stops.2.1 133 = .ok (.getfield 26, 3) := by decide +kernel
theorem d_TrustDeskModel_stops_136 : decode kY_TrustDeskModel_stops.2.1 136 = .ok (.iload 4, 2) := by decide +kernel
theorem d_TrustDeskModel_stops_138 : decode kY_TrustDeskModel_stops.2.1 138 = .ok (.aload_n 0, 1) := by decide +kernel
theorem d_TrustDeskModel_stops_139 : decode kY_TrustDeskModel_stops.2.1 139 = .ok (.getfield 26, 3) := by decide +kernel
theorem d_TrustDeskModel_stops_142 : decode kY_TrustDeskModel_stops.2.1 142 = .ok (.iload_n 3, 1) := by decide +kernel
theorem d_TrustDeskModel_stops_143 : decode kY_TrustDeskModel_stops.2.1 143 = .ok (.iaload, 1) := by decide +kernel
theorem d_TrustDeskModel_stops_144 : decode kY_TrustDeskModel_stops.2.1 144 = .ok (.iastore, 1) := by decide +kernel
theorem d_TrustDeskModel_stops_145 : decode kY_TrustDeskModel_stops.2.1 145 = .ok (.aload_n 0, 1) := by decide +kernel
theorem d_TrustDeskModel_stops_146 : decode kY_TrustDeskModel_stops.2.1 146 = .ok (.getfield 29, 3) := by decide +kernel
theorem d_TrustDeskModel_stops_149 : decode kY_TrustDeskModel_stops.2.1 149 = .ok (.iload 4, 2) := by decide +kernel
theorem d_TrustDeskModel_stops_151 : decode kY_TrustDeskModel_stops.2.1 151 = .ok (.aload_n 0, 1) := by decide +kernel
theorem d_TrustDeskModel_stops_152 : decode kY_TrustDeskModel_stops.2.1 152 = .ok (.getfield 29, 3) := by decide +kernel
theorem d_TrustDeskModel_stops_155 : decode kY_TrustDeskModel_stops.2.1 155 = .ok (.iload_n 3, 1) := by decide +kernel
theorem d_TrustDeskModel_stops_156 : decode kY_TrustDeskModel_stops.2.1 156 = .ok (.iaload, 1) := by decide +kernel
theorem d_TrustDeskModel_stops_157 : decode kY_TrustDeskModel_stops.2.1 157 = .ok (.iastore, 1) := by decide +kernel
theorem d_TrustDeskModel_stops_158 : decode kY_TrustDeskModel_stops.2.1 158 = .ok (.aload_n 0, 1) := by decide +kernel
theorem d_TrustDeskModel_stops_159 : decode kY_TrustDeskModel_stops.2.1 159 = .ok (.getfield 32, 3) := by decide +kernel
theorem d_TrustDeskModel_stops_162 : decode kY_TrustDeskModel_stops.2.1 162 = .ok (.iload 4, 2) := by decide +kernel
theorem d_TrustDeskModel_stops_164 : decode kY_TrustDeskModel_stops.2.1 164 = .ok (.aload_n 0, 1) := by decide +kernel
theorem d_TrustDeskModel_stops_165 : decode kY_TrustDeskModel_stops.2.1 165 = .ok (.getfield 32, 3) := by decide +kernel
theorem d_TrustDeskModel_stops_168 : decode kY_TrustDeskModel_stops.2.1 168 = .ok (.iload_n 3, 1) := by decide +kernel
theorem d_TrustDeskModel_stops_169 : decode kY_TrustDeskModel_stops.2.1 169 = .ok (.iaload, 1) := by decide +kernel
theorem d_TrustDeskModel_stops_170 : decode kY_TrustDeskModel_stops.2.1 170 = .ok (.iastore, 1) := by decide +kernel
theorem d_TrustDeskModel_stops_171 : decode kY_TrustDeskModel_stops.2.1 171 = .ok (.aload_n 0, 1) := by decide +kernel
theorem d_TrustDeskModel_stops_172 : decode kY_TrustDeskModel_stops.2.1 172 = .ok (.getfield 35, 3) := by decide +kernel
theorem d_TrustDeskModel_stops_175 : decode kY_TrustDeskModel_stops.2.1 175 = .ok (.iload 4, 2) := by decide +kernel
theorem d_TrustDeskModel_stops_177 : decode kY_TrustDeskModel_stops.2.1 177 = .ok (.aload_n 0, 1) := by decide +kernel
theorem d_TrustDeskModel_stops_178 : decode kY_TrustDeskModel_stops.2.1 178 = .ok (.getfield 35, 3) := by decide +kernel
theorem d_TrustDeskModel_stops_181 : decode kY_TrustDeskModel_stops.2.1 181 = .ok (.iload_n 3, 1) := by decide +kernel
theorem d_TrustDeskModel_stops_182 : decode kY_TrustDeskModel_stops.2.1 182 = .ok (.iaload, 1) := by decide +kernel
theorem d_TrustDeskModel_stops_183 : decode kY_TrustDeskModel_stops.2.1 183 = .ok (.iastore, 1) := by decide +kernel
theorem d_TrustDeskModel_stops_184 : decode kY_TrustDeskModel_stops.2.1 184 = .ok (.aload_n 0, 1) := by decide +kernel
theorem d_TrustDeskModel_stops_185 : decode kY_TrustDeskModel_stops.2.1 185 = .ok (.getfield 38, 3) := by decide +kernel
theorem d_TrustDeskModel_stops_188 : decode kY_TrustDeskModel_stops.2.1 188 = .ok (.iload 4, 2) := by decide +kernel
theorem d_TrustDeskModel_stops_190 : decode kY_TrustDeskModel_stops.2.1 190 = .ok (.aload_n 0, 1) := by decide +kernel
theorem d_TrustDeskModel_stops_191 : decode kY_TrustDeskModel_stops.2.1 191 = .ok (.getfield 38, 3) := by decide +kernel
theorem d_TrustDeskModel_stops_194 : decode kY_TrustDeskModel_stops.2.1 194 = .ok (.iload_n 3, 1) := by decide +kernel
theorem d_TrustDeskModel_stops_195 : decode kY_TrustDeskModel_stops.2.1 195 = .ok (.iaload, 1) := by decide +kernel
theorem d_TrustDeskModel_stops_196 : decode kY_TrustDeskModel_stops.2.1 196 = .ok (.iastore, 1) := by decide +kernel
theorem d_TrustDeskModel_stops_197 : decode kY_TrustDeskModel_stops.2.1 197 = .ok (.aload_n 0, 1) := by decide +kernel
theorem d_TrustDeskModel_stops_198 : decode kY_TrustDeskModel_stops.2.1 198 = .ok (.getfield 41, 3) := by decide +kernel
theorem d_TrustDeskModel_stops_201 : decode kY_TrustDeskModel_stops.2.1 201 = .ok (.iload 4, 2) := by decide +kernel
theorem d_TrustDeskModel_stops_203 : decode kY_TrustDeskModel_stops.2.1 203 = .ok (.aload_n 0, 1) := by decide +kernel
theorem d_TrustDeskModel_stops_204 : decode kY_TrustDeskModel_stops.2.1 204 = .ok (.getfield 41, 3) := by decide +kernel
theorem d_TrustDeskModel_stops_207 : decode kY_TrustDeskModel_stops.2.1 207 = .ok (.iload_n 3, 1) := by decide +kernel
theorem d_TrustDeskModel_stops_208 : decode kY_TrustDeskModel_stops.2.1 208 = .ok (.iaload, 1) := by decide +kernel
theorem d_TrustDeskModel_stops_209 : decode kY_TrustDeskModel_stops.2.1 209 = .ok (.iastore, 1) := by decide +kernel
theorem d_TrustDeskModel_stops_210 : decode kY_TrustDeskModel_stops.2.1 210 = .ok (.iinc 2 1, 3) := by decide +kernel
theorem d_TrustDeskModel_stops_213 : decode kY_TrustDeskModel_stops.2.1 213 = .ok (.goto (-106), 3) := by decide +kernel
theorem d_TrustDeskModel_stops_77 : decode kY_TrustDeskModel_stops.2.1 77 = .ok (.aload_n 0, 1) := by decide +kernel
theorem d_TrustDeskModel_stops_78 : decode kY_TrustDeskModel_stops.2.1 78 = .ok (.getfield 17, 3) := by decide +kernel
theorem d_TrustDeskModel_stops_81 : decode kY_TrustDeskModel_stops.2.1 81 = .ok (.sipush 420, 3) := by decide +kernel
theorem d_TrustDeskModel_stops_84 : decode kY_TrustDeskModel_stops.2.1 84 = .ok (.iload_n 1, 1) := by decide +kernel
theorem d_TrustDeskModel_stops_85 : decode kY_TrustDeskModel_stops.2.1 85 = .ok (.imul, 1) := by decide +kernel
theorem d_TrustDeskModel_stops_86 : decode kY_TrustDeskModel_stops.2.1 86 = .ok (.iload_n 2, 1) := by decide +kernel
theorem d_TrustDeskModel_stops_87 : decode kY_TrustDeskModel_stops.2.1 87 = .ok (.iadd, 1) := by decide +kernel
theorem d_TrustDeskModel_stops_88 : decode kY_TrustDeskModel_stops.2.1 88 = .ok (.aload_n 0, 1) := by decide +kernel
theorem d_TrustDeskModel_stops_89 : decode kY_TrustDeskModel_stops.2.1 89 = .ok (.getfield 17, 3) := by decide +kernel
theorem d_TrustDeskModel_stops_92 : decode kY_TrustDeskModel_stops.2.1 92 = .ok (.sipush 18480, 3) := by decide +kernel
theorem d_TrustDeskModel_stops_95 : decode kY_TrustDeskModel_stops.2.1 95 = .ok (.iload_n 2, 1) := by decide +kernel
theorem d_TrustDeskModel_stops_96 : decode kY_TrustDeskModel_stops.2.1 96 = .ok (.iadd, 1) := by decide +kernel
theorem d_TrustDeskModel_stops_97 : decode kY_TrustDeskModel_stops.2.1 97 = .ok (.iaload, 1) := by decide +kernel
theorem d_TrustDeskModel_stops_98 : decode kY_TrustDeskModel_stops.2.1 98 = .ok (.iastore, 1) := by decide +kernel
theorem d_TrustDeskModel_stops_99 : decode kY_TrustDeskModel_stops.2.1 99 = .ok (.iinc 2 1, 3) := by decide +kernel
theorem d_TrustDeskModel_stops_102 : decode kY_TrustDeskModel_stops.2.1 102 = .ok (.goto (-36), 3) := by decide +kernel
def w_TrustDeskModel_stops_x : List Nat := [1314, 1321, 20004, 20005, 20006, 20007, 20008, 20009, 20010, 20011, 20012]
set_option maxHeartbeats 100000000 in theorem tc_TrustDeskModel_stops_x {g : mj_G} {l : Launch} {d : Nat} {T0 : tm_H} {M0 : mj_M} {n0 x9 : Nat} {o0 : Nat} {x1 : Int32} (h_o0 : T0 o0 = some (0, 13, 0)) (yR : rI M0 o0) (yx : 0 ≤ x1.toInt ∧ x1.toInt ≤ 43) (I0 : tm_I tm_FT (tm_in w_TrustDeskModel_stops_x) x9 T0 M0 n0 T0 M0 n0) : mj_Met g l kY_TrustDeskModel_stops (d + 1) [.ref o0, .int x1] M0 n0 0 0 (tm_Q tm_FT (tm_in w_TrustDeskModel_stops_x) x9 T0 M0 n0 (fun r _ M => ∃ v : Int32, r = some (.int v) ∧ rI M o0 ∧ (rv M0 o0 19 ≠ 0 → v.toInt < 0 ∧ sA [4, 7, 8, 10, 11, 12] M0 M o0) ∧ (rv M0 o0 19 = 0 → v.toInt = 0 ∧ rcp M0 M o0 4 18480 (420 * x1.toNatClampNeg) (ra M0 o0 5 44) ∧ rcp M0 M o0 7 880 (20 * x1.toNatClampNeg) (ra M0 o0 6 44) ∧ rcp M0 M o0 8 880 (20 * x1.toNatClampNeg) (ra M0 o0 6 44) ∧ rcp M0 M o0 10 880 (20 * x1.toNatClampNeg) (ra M0 o0 6 44) ∧ rcp M0 M o0 11 880 (20 * x1.toNatClampNeg) (ra M0 o0 6 44) ∧ rcp M0 M o0 12 880 (20 * x1.toNatClampNeg) (ra M0 o0 6 44) ∧ ra M o0 6 x1.toNatClampNeg = ra M0 o0 6 44))) := by
  refine mj_enter (by decide) (Nat.le_of_ble_eq_true rfl) ?_
  have K1 : rcp M0 M0 o0 4 18480 (420 * x1.toNatClampNeg) 0 := rcp.rf
  have K2 : rcp M0 M0 o0 7 880 (20 * x1.toNatClampNeg) 0 := rcp.rf
  have K3 : rcp M0 M0 o0 8 880 (20 * x1.toNatClampNeg) 0 := rcp.rf
  have K4 : rcp M0 M0 o0 10 880 (20 * x1.toNatClampNeg) 0 := rcp.rf
  have K5 : rcp M0 M0 o0 11 880 (20 * x1.toNatClampNeg) 0 := rcp.rf
  have K6 : rcp M0 M0 o0 12 880 (20 * x1.toNatClampNeg) 0 := rcp.rf
  have K7 : sA [4, 7, 8, 10, 11, 12] M0 M0 o0 := sA.rf
  have := yR.2 5 _ _ rfl 44
  have := yR.2 6 _ _ rfl 44
  refine mv_aload_n d_TrustDeskModel_stops_0 rfl rfl ?_
  refine mv_iconst (v := 0) d_TrustDeskModel_stops_1 (by decide) ?_
  refine tr_putR (k := 14) I0 yR h_o0 rfl ⟨_, rfl⟩ (fun _ h => by cases h) rfl (fun lo hi h => by cases h; exact (by decide)) (Or.inl (by decide)) d_TrustDeskModel_stops_2 p_TrustDeskModel_189_13 rfl rfl (fun M8 I9 q10 K11 R12 A13 V14 => ?_)
  have z15 := (V14 19 (by decide))
  have z16 := (A13 5 (by decide) 44)
  have z17 := (A13 6 (by decide) 44)
  have K18 : rcp M0 M8 o0 4 18480 (420 * x1.toNatClampNeg) 0 := K1.same (((sA_f A13 (by decide)) : sA [4] _ _ _) 4 rfl)
  have K19 : rcp M0 M8 o0 7 880 (20 * x1.toNatClampNeg) 0 := K2.same (((sA_f A13 (by decide)) : sA [7] _ _ _) 7 rfl)
  have K20 : rcp M0 M8 o0 8 880 (20 * x1.toNatClampNeg) 0 := K3.same (((sA_f A13 (by decide)) : sA [8] _ _ _) 8 rfl)
  have K21 : rcp M0 M8 o0 10 880 (20 * x1.toNatClampNeg) 0 := K4.same (((sA_f A13 (by decide)) : sA [10] _ _ _) 10 rfl)
  have K22 : rcp M0 M8 o0 11 880 (20 * x1.toNatClampNeg) 0 := K5.same (((sA_f A13 (by decide)) : sA [11] _ _ _) 11 rfl)
  have K23 : rcp M0 M8 o0 12 880 (20 * x1.toNatClampNeg) 0 := K6.same (((sA_f A13 (by decide)) : sA [12] _ _ _) 12 rfl)
  have K24 : sA [4, 7, 8, 10, 11, 12] M0 M8 o0 := K7.trans (sA_f A13 (by decide))
  refine mv_aload_n d_TrustDeskModel_stops_5 rfl rfl ?_
  refine mv_aload_n d_TrustDeskModel_stops_6 rfl rfl ?_
  obtain ⟨_, b25, -⟩ := I9.1 _ _ h_o0
  refine mv_callV (kc1 := 0) (ks1 := 0) (kc' := 0) (ks' := 0) (As := []) (st9 := [.ref o0, .ref o0]) d_TrustDeskModel_stops_7 lV_TrustDeskModel_230 b25 rfl (mj_enter (by decide) (Nat.le_of_ble_eq_true rfl) ?_) rfl (Nat.le_of_ble_eq_true rfl) (Nat.le_of_ble_eq_true rfl) (Nat.le_of_ble_eq_true rfl) (hst := rfl) (fun _ _ _ h => h)
  refine mv_aload_n d_TrustDeskModel_isWell_0 rfl rfl ?_
  obtain ⟨v27, q26⟩ := tm_atI I9 h_o0 (k := 19) rfl
  refine tr_getK q26 d_TrustDeskModel_isWell_1 f_TrustDeskModel_224_13 ?_
  have := R12.f (k := 19) q26 rfl
  have := (tm_rv q26).symm.trans z15
  have := tm_rv q26
  have := mz_hi v27
  refine mv_if_neZ (tgt := 11) (a := v27.toInt) d_TrustDeskModel_isWell_4 (by decide) rfl (fun b28 => ?_) (fun b28 => ?_)
  · refine mv_iconst (v := 0) d_TrustDeskModel_isWell_11 (by decide) ?_
    refine mv_iret d_TrustDeskModel_isWell_12 rfl (by decide) ?_
    refine mv_if_eq_t (tgt := 17) d_TrustDeskModel_stops_10 (by decide) (by decide) ?_
    refine mv_aload_n d_TrustDeskModel_stops_17 rfl rfl ?_
    obtain ⟨v30, q29⟩ := tm_atI I9 h_o0 (k := 20) rfl
    refine tr_getK q29 d_TrustDeskModel_stops_18 f_TrustDeskModel_227_13 ?_
    refine tr_putR (k := 21) I9 R12 h_o0 rfl ⟨_, rfl⟩ (fun _ h => by cases h) rfl (fun lo hi h => by cases h) (Or.inl (by decide)) d_TrustDeskModel_stops_21 p_TrustDeskModel_48_13 rfl rfl (fun M31 I32 q33 K34 R35 A36 V37 => ?_)
    have z38 := (V37 19 (by decide)).trans z15
    have z39 := (A36 5 (by decide) 44).trans z16
    have z40 := (A36 6 (by decide) 44).trans z17
    have K41 : rcp M0 M31 o0 4 18480 (420 * x1.toNatClampNeg) 0 := K18.same (((sA_f A36 (by decide)) : sA [4] _ _ _) 4 rfl)
    have K42 : rcp M0 M31 o0 7 880 (20 * x1.toNatClampNeg) 0 := K19.same (((sA_f A36 (by decide)) : sA [7] _ _ _) 7 rfl)
    have K43 : rcp M0 M31 o0 8 880 (20 * x1.toNatClampNeg) 0 := K20.same (((sA_f A36 (by decide)) : sA [8] _ _ _) 8 rfl)
    have K44 : rcp M0 M31 o0 10 880 (20 * x1.toNatClampNeg) 0 := K21.same (((sA_f A36 (by decide)) : sA [10] _ _ _) 10 rfl)
    have K45 : rcp M0 M31 o0 11 880 (20 * x1.toNatClampNeg) 0 := K22.same (((sA_f A36 (by decide)) : sA [11] _ _ _) 11 rfl)
    have K46 : rcp M0 M31 o0 12 880 (20 * x1.toNatClampNeg) 0 := K23.same (((sA_f A36 (by decide)) : sA [12] _ _ _) 12 rfl)
    have K47 : sA [4, 7, 8, 10, 11, 12] M0 M31 o0 := K24.trans (sA_f A36 (by decide))
    clear z16 z17
    refine mv_aload_n d_TrustDeskModel_stops_24 rfl rfl ?_
    obtain ⟨_, b48, -⟩ := I32.1 _ _ h_o0
    refine mv_callV (kc1 := 0) (ks1 := 0) (kc' := 0) (ks' := 0) (As := []) (st9 := [.ref o0]) d_TrustDeskModel_stops_25 lV_TrustDeskModel_230 b48 rfl (mj_enter (by decide) (Nat.le_of_ble_eq_true rfl) ?_) rfl (Nat.le_of_ble_eq_true rfl) (Nat.le_of_ble_eq_true rfl) (Nat.le_of_ble_eq_true rfl) (hst := rfl) (fun _ _ _ h => h)
    refine mv_aload_n d_TrustDeskModel_isWell_0 rfl rfl ?_
    refine tr_getK (k := 19) (K34 _ 13 19 _ rfl q26) d_TrustDeskModel_isWell_1 f_TrustDeskModel_224_13 ?_
    have := mz_hi v27
    refine mv_if_neZ (tgt := 11) (a := v27.toInt) d_TrustDeskModel_isWell_4 (by decide) rfl (fun b49 => ?_) (fun b49 => absurd b49 (by omega))
    refine mv_iconst (v := 0) d_TrustDeskModel_isWell_11 (by decide) ?_
    refine mv_iret d_TrustDeskModel_isWell_12 rfl (by decide) ?_
    refine mv_if_ne_f (tgt := 38) d_TrustDeskModel_stops_28 (by decide) (by decide) ?_
    refine mv_iconst (v := (-1)) d_TrustDeskModel_stops_31 (by decide) ?_
    refine mv_aload_n d_TrustDeskModel_stops_32 rfl rfl ?_
    refine tr_getK (k := 19) (K34 _ 13 19 _ rfl q26) d_TrustDeskModel_stops_33 f_TrustDeskModel_224_13 ?_
    refine mv_isub d_TrustDeskModel_stops_36 ?_
    have b50 : ((-1) - v27 : Int32).toInt = ((-1) - v27.toInt) := mz_sub2 (by decide) rfl (by omega) (by omega)
    exact mv_iret d_TrustDeskModel_stops_37 rfl (by first | rfl | decide) ⟨_, I32, _, rfl, R35, (fun _ => ⟨(by omega), K47⟩), (fun h9 => by exfalso; omega)⟩
  · refine mv_iconst (v := 1) d_TrustDeskModel_isWell_7 (by decide) ?_
    refine mv_goto (tgt := 12) d_TrustDeskModel_isWell_8 (by decide) ?_
    refine mv_iret d_TrustDeskModel_isWell_12 rfl (by decide) ?_
    refine mv_if_eq_f (tgt := 17) d_TrustDeskModel_stops_10 (by decide) (by decide) ?_
    refine mv_iconst (v := (-1)) d_TrustDeskModel_stops_13 (by decide) ?_
    refine mv_goto (tgt := 21) d_TrustDeskModel_stops_14 (by decide) ?_
    refine tr_putR (k := 21) I9 R12 h_o0 rfl ⟨_, rfl⟩ (fun _ h => by cases h) rfl (fun lo hi h => by cases h) (Or.inl (by decide)) d_TrustDeskModel_stops_21 p_TrustDeskModel_48_13 rfl rfl (fun M51 I52 q53 K54 R55 A56 V57 => ?_)
    have z58 := (V57 19 (by decide)).trans z15
    have z59 := (A56 5 (by decide) 44).trans z16
    have z60 := (A56 6 (by decide) 44).trans z17
    have K61 : rcp M0 M51 o0 4 18480 (420 * x1.toNatClampNeg) 0 := K18.same (((sA_f A56 (by decide)) : sA [4] _ _ _) 4 rfl)
    have K62 : rcp M0 M51 o0 7 880 (20 * x1.toNatClampNeg) 0 := K19.same (((sA_f A56 (by decide)) : sA [7] _ _ _) 7 rfl)
    have K63 : rcp M0 M51 o0 8 880 (20 * x1.toNatClampNeg) 0 := K20.same (((sA_f A56 (by decide)) : sA [8] _ _ _) 8 rfl)
    have K64 : rcp M0 M51 o0 10 880 (20 * x1.toNatClampNeg) 0 := K21.same (((sA_f A56 (by decide)) : sA [10] _ _ _) 10 rfl)
    have K65 : rcp M0 M51 o0 11 880 (20 * x1.toNatClampNeg) 0 := K22.same (((sA_f A56 (by decide)) : sA [11] _ _ _) 11 rfl)
    have K66 : rcp M0 M51 o0 12 880 (20 * x1.toNatClampNeg) 0 := K23.same (((sA_f A56 (by decide)) : sA [12] _ _ _) 12 rfl)
    have K67 : sA [4, 7, 8, 10, 11, 12] M0 M51 o0 := K24.trans (sA_f A56 (by decide))
    clear z16 z17
    refine mv_aload_n d_TrustDeskModel_stops_24 rfl rfl ?_
    obtain ⟨_, b68, -⟩ := I52.1 _ _ h_o0
    refine mv_callV (kc1 := 0) (ks1 := 0) (kc' := 0) (ks' := 0) (As := []) (st9 := [.ref o0]) d_TrustDeskModel_stops_25 lV_TrustDeskModel_230 b68 rfl (mj_enter (by decide) (Nat.le_of_ble_eq_true rfl) ?_) rfl (Nat.le_of_ble_eq_true rfl) (Nat.le_of_ble_eq_true rfl) (Nat.le_of_ble_eq_true rfl) (hst := rfl) (fun _ _ _ h => h)
    refine mv_aload_n d_TrustDeskModel_isWell_0 rfl rfl ?_
    refine tr_getK (k := 19) (K54 _ 13 19 _ rfl q26) d_TrustDeskModel_isWell_1 f_TrustDeskModel_224_13 ?_
    have := mz_hi v27
    refine mv_if_neZ (tgt := 11) (a := v27.toInt) d_TrustDeskModel_isWell_4 (by decide) rfl (fun b69 => absurd b69 (by omega)) (fun b69 => ?_)
    refine mv_iconst (v := 1) d_TrustDeskModel_isWell_7 (by decide) ?_
    refine mv_goto (tgt := 12) d_TrustDeskModel_isWell_8 (by decide) ?_
    refine mv_iret d_TrustDeskModel_isWell_12 rfl (by decide) ?_
    refine mv_if_ne_t (tgt := 38) d_TrustDeskModel_stops_28 (by decide) (by decide) ?_
    refine mv_aload_n d_TrustDeskModel_stops_38 rfl rfl ?_
    obtain ⟨a71, q70, t_a71⟩ := tm_atR I52 h_o0 (k := 5) rfl
    refine tr_getK q70 d_TrustDeskModel_stops_39 f_TrustDeskModel_20_13 ?_
    refine mv_iload_n d_TrustDeskModel_stops_42 rfl rfl ?_
    refine mv_aload_n d_TrustDeskModel_stops_43 rfl rfl ?_
    refine tr_getK (k := 5) q70 d_TrustDeskModel_stops_44 f_TrustDeskModel_20_13 ?_
    refine mv_bipush (v := 44) d_TrustDeskModel_stops_47 (by decide) ?_
    refine tr_ialdR (o := o0) (k := 5) I52 q70 t_a71 (by decide) d_TrustDeskModel_stops_49 (by unfold vp_in; decide) (fun v72 e73 => ?_)
    have := R55.a (k := 5) rfl (44 : Int32).toNatClampNeg
    have : v72.toInt = ra M51 o0 5 44 := e73
    have : v72.toInt = _ := Eq.trans e73 z59
    refine tr_iastR (k := 5) I52 R55 (I52.up h_o0) q70 t_a71 (by decide) (by decide) (fun lo hi h => by cases h; exact ⟨by show (0 : Int) ≤ v72.toInt; omega, by show v72.toInt ≤ (400 : Int); omega⟩) (Or.inl (by decide)) d_TrustDeskModel_stops_50 (vp_in_iff.mpr (by omega)) (fun M74 I75 K76 R77 E78 A79 V80 => ?_)
    have z81 := (V80 19).trans z58
    have z82 := ((E78 44).trans (if_neg (by have := mz_nat9 (i := x1) (by omega); omega))).trans z59
    have z83 := (A79 6 (by decide) rfl 44).trans z60
    have K84 : rcp M0 M74 o0 4 18480 (420 * x1.toNatClampNeg) 0 := K61.same (((sA_a A79 (by decide +kernel)) : sA [4] _ _ _) 4 rfl)
    have K85 : rcp M0 M74 o0 7 880 (20 * x1.toNatClampNeg) 0 := K62.same (((sA_a A79 (by decide +kernel)) : sA [7] _ _ _) 7 rfl)
    have K86 : rcp M0 M74 o0 8 880 (20 * x1.toNatClampNeg) 0 := K63.same (((sA_a A79 (by decide +kernel)) : sA [8] _ _ _) 8 rfl)
    have K87 : rcp M0 M74 o0 10 880 (20 * x1.toNatClampNeg) 0 := K64.same (((sA_a A79 (by decide +kernel)) : sA [10] _ _ _) 10 rfl)
    have K88 : rcp M0 M74 o0 11 880 (20 * x1.toNatClampNeg) 0 := K65.same (((sA_a A79 (by decide +kernel)) : sA [11] _ _ _) 11 rfl)
    have K89 : rcp M0 M74 o0 12 880 (20 * x1.toNatClampNeg) 0 := K66.same (((sA_a A79 (by decide +kernel)) : sA [12] _ _ _) 12 rfl)
    have K90 : sA [4, 7, 8, 10, 11, 12] M0 M74 o0 := K67.trans (sA_a A79 (by decide +kernel))
    clear z59 z60
    refine mv_aload_n d_TrustDeskModel_stops_51 rfl rfl ?_
    obtain ⟨a92, q91, t_a92⟩ := tm_atR I75 h_o0 (k := 6) rfl
    refine tr_getK q91 d_TrustDeskModel_stops_52 f_TrustDeskModel_23_13 ?_
    refine mv_iload_n d_TrustDeskModel_stops_55 rfl rfl ?_
    refine mv_aload_n d_TrustDeskModel_stops_56 rfl rfl ?_
    refine tr_getK (k := 6) q91 d_TrustDeskModel_stops_57 f_TrustDeskModel_23_13 ?_
    refine mv_bipush (v := 44) d_TrustDeskModel_stops_60 (by decide) ?_
    refine tr_ialdR (o := o0) (k := 6) I75 q91 t_a92 (by decide) d_TrustDeskModel_stops_62 (by unfold vp_in; decide) (fun v93 e94 => ?_)
    have := R77.a (k := 6) rfl (44 : Int32).toNatClampNeg
    have : v93.toInt = ra M74 o0 6 44 := e94
    have : v93.toInt = _ := Eq.trans e94 z83
    refine tr_iastR (k := 6) I75 R77 (I75.up h_o0) q91 t_a92 (by decide) (by decide) (fun lo hi h => by cases h; exact ⟨by show (0 : Int) ≤ v93.toInt; omega, by show v93.toInt ≤ (20 : Int); omega⟩) (Or.inl (by decide)) d_TrustDeskModel_stops_63 (vp_in_iff.mpr (by omega)) (fun M95 I96 K97 R98 E99 A100 V101 => ?_)
    have z102 := (V101 19).trans z81
    have z103 := (A100 5 (by decide) rfl 44).trans z82
    have z104 := ((E99 44).trans (if_neg (by have := mz_nat9 (i := x1) (by omega); omega))).trans z83
    have h105 : x1.toNatClampNeg = x1.toNatClampNeg := rfl
    have z106 : ra M95 o0 6 x1.toNatClampNeg = v93.toInt := (E99 _).trans (if_pos h105)
    have K107 : rcp M0 M95 o0 4 18480 (420 * x1.toNatClampNeg) 0 := K84.same (((sA_a A100 (by decide +kernel)) : sA [4] _ _ _) 4 rfl)
    have K108 : rcp M0 M95 o0 7 880 (20 * x1.toNatClampNeg) 0 := K85.same (((sA_a A100 (by decide +kernel)) : sA [7] _ _ _) 7 rfl)
    have K109 : rcp M0 M95 o0 8 880 (20 * x1.toNatClampNeg) 0 := K86.same (((sA_a A100 (by decide +kernel)) : sA [8] _ _ _) 8 rfl)
    have K110 : rcp M0 M95 o0 10 880 (20 * x1.toNatClampNeg) 0 := K87.same (((sA_a A100 (by decide +kernel)) : sA [10] _ _ _) 10 rfl)
    have K111 : rcp M0 M95 o0 11 880 (20 * x1.toNatClampNeg) 0 := K88.same (((sA_a A100 (by decide +kernel)) : sA [11] _ _ _) 11 rfl)
    have K112 : rcp M0 M95 o0 12 880 (20 * x1.toNatClampNeg) 0 := K89.same (((sA_a A100 (by decide +kernel)) : sA [12] _ _ _) 12 rfl)
    have K113 : sA [4, 7, 8, 10, 11, 12] M0 M95 o0 := K90.trans (sA_a A100 (by decide +kernel))
    clear z82 z83
    refine mv_iconst (v := 0) d_TrustDeskModel_stops_64 (by decide) ?_
    refine mv_istore_n (lv' := [(2, .int 0), (0, .ref o0), (1, .int x1)]) d_TrustDeskModel_stops_65 rfl (by decide) rfl ?_
    have L66_114 : ∀ (k : Nat) (i2_114 : Int32) (T_114 : tm_H) (M_114 : mj_M) (n_114 : Nat), tm_I tm_FT (tm_in w_TrustDeskModel_stops_x) x9 T0 M0 n0 T_114 M_114 n_114 → T_114 o0 = some (0, 13, 0) → 0 ≤ i2_114.toInt → rv M_114 o0 19 = rv M0 o0 19 → ra M_114 o0 5 44 = ra M0 o0 5 44 → ra M_114 o0 6 44 = ra M0 o0 6 44 → ra M_114 o0 6 x1.toNatClampNeg = ra M0 o0 6 44 → i2_114.toInt ≤ ra M0 o0 5 44 → (rI M_114 o0) → (rcp M0 M_114 o0 4 18480 (420 * x1.toNatClampNeg) i2_114.toInt) → (rcp M0 M_114 o0 7 880 (20 * x1.toNatClampNeg) 0) → (rcp M0 M_114 o0 8 880 (20 * x1.toNatClampNeg) 0) → (rcp M0 M_114 o0 10 880 (20 * x1.toNatClampNeg) 0) → (rcp M0 M_114 o0 11 880 (20 * x1.toNatClampNeg) 0) → (rcp M0 M_114 o0 12 880 (20 * x1.toNatClampNeg) 0) → 2147483647 - i2_114.toInt < (k : Int) → mj_V g l kY_TrustDeskModel_stops (d + 1) 66 [(2, .int i2_114), (0, .ref o0), (1, .int x1)] [] M_114 n_114 0 0 (tm_Q tm_FT (tm_in w_TrustDeskModel_stops_x) x9 T0 M0 n0 (fun r _ M => ∃ v : Int32, r = some (.int v) ∧ rI M o0 ∧ (rv M0 o0 19 ≠ 0 → v.toInt < 0 ∧ sA [4, 7, 8, 10, 11, 12] M0 M o0) ∧ (rv M0 o0 19 = 0 → v.toInt = 0 ∧ rcp M0 M o0 4 18480 (420 * x1.toNatClampNeg) (ra M0 o0 5 44) ∧ rcp M0 M o0 7 880 (20 * x1.toNatClampNeg) (ra M0 o0 6 44) ∧ rcp M0 M o0 8 880 (20 * x1.toNatClampNeg) (ra M0 o0 6 44) ∧ rcp M0 M o0 10 880 (20 * x1.toNatClampNeg) (ra M0 o0 6 44) ∧ rcp M0 M o0 11 880 (20 * x1.toNatClampNeg) (ra M0 o0 6 44) ∧ rcp M0 M o0 12 880 (20 * x1.toNatClampNeg) (ra M0 o0 6 44) ∧ ra M o0 6 x1.toNatClampNeg = ra M0 o0 6 44))) := by
      intro k114
      induction k114 with
      | zero =>
        intro i2_114 T_114 M_114 n_114 I_114 h_q0_114 iv0_114 iv1_114 iv2_114 iv3_114 iv4_114 iv5_114 kKR_114 kKQ4_114 kKQ7_114 kKQ8_114 kKQ10_114 kKQ11_114 kKQ12_114 hk114
        have := mz_hi i2_114
        have := kKR_114.1 15 _ _ rfl
        have := kKR_114.1 16 _ _ rfl
        have := kKR_114.1 19 _ _ rfl
        omega
      | succ k114 ih114 =>
        intro i2_114 T_114 M_114 n_114 I_114 h_q0_114 iv0_114 iv1_114 iv2_114 iv3_114 iv4_114 iv5_114 kKR_114 kKQ4_114 kKQ7_114 kKQ8_114 kKQ10_114 kKQ11_114 kKQ12_114 hk114
        refine mv_iload_n d_TrustDeskModel_stops_66 rfl rfl ?_
        refine mv_aload_n d_TrustDeskModel_stops_67 rfl rfl ?_
        obtain ⟨a116, q115, t_a116⟩ := tm_atR I_114 h_q0_114 (k := 5) rfl
        refine tr_getK q115 d_TrustDeskModel_stops_68 f_TrustDeskModel_20_13 ?_
        refine mv_bipush (v := 44) d_TrustDeskModel_stops_71 (by decide) ?_
        refine tr_ialdR (o := o0) (k := 5) I_114 q115 t_a116 (by decide) d_TrustDeskModel_stops_73 (by unfold vp_in; decide) (fun v117 e118 => ?_)
        have := kKR_114.a (k := 5) rfl (44 : Int32).toNatClampNeg
        have : v117.toInt = ra M_114 o0 5 44 := e118
        have := mz_hi i2_114
        have := mz_hi v117
        refine mv_icmp_geZ (tgt := 105) (a := i2_114.toInt) (b := v117.toInt) d_TrustDeskModel_stops_74 (by decide) rfl rfl (fun b119 => ?_) (fun b119 => ?_)
        · refine mv_iconst (v := 0) d_TrustDeskModel_stops_105 (by decide) ?_
          refine mv_istore_n (lv' := [(2, .int 0), (0, .ref o0), (1, .int x1)]) d_TrustDeskModel_stops_106 rfl (by decide) rfl ?_
          have L107_120 : ∀ (k : Nat) (i2_120 : Int32) (T_120 : tm_H) (M_120 : mj_M) (n_120 : Nat), tm_I tm_FT (tm_in w_TrustDeskModel_stops_x) x9 T0 M0 n0 T_120 M_120 n_120 → T_120 o0 = some (0, 13, 0) → 0 ≤ i2_120.toInt → rv M_120 o0 19 = rv M0 o0 19 → ra M_120 o0 5 44 = ra M0 o0 5 44 → ra M_120 o0 6 44 = ra M0 o0 6 44 → ra M_120 o0 6 x1.toNatClampNeg = ra M0 o0 6 44 → i2_120.toInt ≤ ra M0 o0 6 44 → (rI M_120 o0) → (rcp M0 M_120 o0 4 18480 (420 * x1.toNatClampNeg) i2_114.toInt) → (rcp M0 M_120 o0 7 880 (20 * x1.toNatClampNeg) i2_120.toInt) → (rcp M0 M_120 o0 8 880 (20 * x1.toNatClampNeg) i2_120.toInt) → (rcp M0 M_120 o0 10 880 (20 * x1.toNatClampNeg) i2_120.toInt) → (rcp M0 M_120 o0 11 880 (20 * x1.toNatClampNeg) i2_120.toInt) → (rcp M0 M_120 o0 12 880 (20 * x1.toNatClampNeg) i2_120.toInt) → 2147483647 - i2_120.toInt < (k : Int) → mj_V g l kY_TrustDeskModel_stops (d + 1) 107 [(2, .int i2_120), (0, .ref o0), (1, .int x1)] [] M_120 n_120 0 0 (tm_Q tm_FT (tm_in w_TrustDeskModel_stops_x) x9 T0 M0 n0 (fun r _ M => ∃ v : Int32, r = some (.int v) ∧ rI M o0 ∧ (rv M0 o0 19 ≠ 0 → v.toInt < 0 ∧ sA [4, 7, 8, 10, 11, 12] M0 M o0) ∧ (rv M0 o0 19 = 0 → v.toInt = 0 ∧ rcp M0 M o0 4 18480 (420 * x1.toNatClampNeg) (ra M0 o0 5 44) ∧ rcp M0 M o0 7 880 (20 * x1.toNatClampNeg) (ra M0 o0 6 44) ∧ rcp M0 M o0 8 880 (20 * x1.toNatClampNeg) (ra M0 o0 6 44) ∧ rcp M0 M o0 10 880 (20 * x1.toNatClampNeg) (ra M0 o0 6 44) ∧ rcp M0 M o0 11 880 (20 * x1.toNatClampNeg) (ra M0 o0 6 44) ∧ rcp M0 M o0 12 880 (20 * x1.toNatClampNeg) (ra M0 o0 6 44) ∧ ra M o0 6 x1.toNatClampNeg = ra M0 o0 6 44))) := by
            intro k120
            induction k120 with
            | zero =>
              intro i2_120 T_120 M_120 n_120 I_120 h_q0_120 iv0_120 iv1_120 iv2_120 iv3_120 iv4_120 iv5_120 kKR_120 kKQ4_120 kKQ7_120 kKQ8_120 kKQ10_120 kKQ11_120 kKQ12_120 hk120
              have := mz_hi i2_120
              have := kKR_120.1 15 _ _ rfl
              have := kKR_120.1 16 _ _ rfl
              have := kKR_120.1 19 _ _ rfl
              omega
            | succ k120 ih120 =>
              intro i2_120 T_120 M_120 n_120 I_120 h_q0_120 iv0_120 iv1_120 iv2_120 iv3_120 iv4_120 iv5_120 kKR_120 kKQ4_120 kKQ7_120 kKQ8_120 kKQ10_120 kKQ11_120 kKQ12_120 hk120
              refine mv_iload_n d_TrustDeskModel_stops_107 rfl rfl ?_
              refine mv_aload_n d_TrustDeskModel_stops_108 rfl rfl ?_
              obtain ⟨a122, q121, t_a122⟩ := tm_atR I_120 h_q0_120 (k := 6) rfl
              refine tr_getK q121 d_TrustDeskModel_stops_109 f_TrustDeskModel_23_13 ?_
              refine mv_bipush (v := 44) d_TrustDeskModel_stops_112 (by decide) ?_
              refine tr_ialdR (o := o0) (k := 6) I_120 q121 t_a122 (by decide) d_TrustDeskModel_stops_114 (by unfold vp_in; decide) (fun v123 e124 => ?_)
              have := kKR_120.a (k := 6) rfl (44 : Int32).toNatClampNeg
              have : v123.toInt = ra M_120 o0 6 44 := e124
              have := mz_hi i2_120
              have := mz_hi v123
              refine mv_icmp_geZ (tgt := 216) (a := i2_120.toInt) (b := v123.toInt) d_TrustDeskModel_stops_115 (by decide) rfl rfl (fun b125 => ?_) (fun b125 => ?_)
              · refine mv_iconst (v := 0) d_TrustDeskModel_stops_216 (by decide) ?_
                exact mv_iret d_TrustDeskModel_stops_217 rfl (by first | rfl | decide) ⟨_, I_120, _, rfl, kKR_120, (fun h9 => by exfalso; omega), (fun _ => ⟨by decide, kKQ4_120.cast (by omega), kKQ7_120.cast (by omega), kKQ8_120.cast (by omega), kKQ10_120.cast (by omega), kKQ11_120.cast (by omega), kKQ12_120.cast (by omega), (by omega)⟩)⟩
              · refine mv_sipush (v := 880) d_TrustDeskModel_stops_118 (by decide) ?_
                refine mv_iload_n d_TrustDeskModel_stops_121 rfl rfl ?_
                refine mv_iadd d_TrustDeskModel_stops_122 ?_
                refine mv_istore_n (lv' := [(3, .int (880 + i2_120)), (2, .int i2_120), (0, .ref o0), (1, .int x1)]) d_TrustDeskModel_stops_123 rfl (by decide) rfl ?_
                refine mv_bipush (v := 20) d_TrustDeskModel_stops_124 (by decide) ?_
                refine mv_iload_n d_TrustDeskModel_stops_126 rfl rfl ?_
                refine mv_imul d_TrustDeskModel_stops_127 ?_
                refine mv_iload_n d_TrustDeskModel_stops_128 rfl rfl ?_
                refine mv_iadd d_TrustDeskModel_stops_129 ?_
                refine mv_istore (lv' := [(4, .int ((20 * x1) + i2_120)), (3, .int (880 + i2_120)), (2, .int i2_120), (0, .ref o0), (1, .int x1)]) d_TrustDeskModel_stops_130 (by decide) rfl ?_
                refine mv_aload_n d_TrustDeskModel_stops_132 rfl rfl ?_
                obtain ⟨a127, q126, t_a127⟩ := tm_atR I_120 h_q0_120 (k := 7) rfl
                refine tr_getK q126 d_TrustDeskModel_stops_133 f_TrustDeskModel_26_13 ?_
                refine mv_iload d_TrustDeskModel_stops_136 rfl ?_
                refine mv_aload_n d_TrustDeskModel_stops_138 rfl rfl ?_
                refine tr_getK (k := 7) q126 d_TrustDeskModel_stops_139 f_TrustDeskModel_26_13 ?_
                refine mv_iload_n d_TrustDeskModel_stops_142 rfl rfl ?_
                have b128 : (880 + i2_120 : Int32).toInt = (880 + i2_120.toInt) := mz_add2 (by decide) rfl (by omega) (by omega)
                refine tr_ialdR (o := o0) (k := 7) I_120 q126 t_a127 (by decide) d_TrustDeskModel_stops_143 (vp_in_iff.mpr (by omega)) (fun v129 e130 => ?_)
                have b131 : (20 * x1 : Int32).toInt = (20 * x1.toInt) := mz_mul2 (by decide) rfl (by omega) (by omega)
                have b132 : ((20 * x1) + i2_120 : Int32).toInt = ((20 * x1.toInt) + i2_120.toInt) := mz_add2 b131 rfl (by omega) (by omega)
                refine tr_iastR (k := 7) I_120 kKR_120 (I_120.up h_o0) q126 t_a127 (by decide) (by decide) (fun lo hi h => by cases h) (Or.inl (by decide)) d_TrustDeskModel_stops_144 (vp_in_iff.mpr (by omega)) (fun M133 I134 K135 R136 E137 A138 V139 => ?_)
                have z140 := (V139 19)
                have z141 := (A138 5 (by decide) rfl 44)
                have z142 := (A138 6 (by decide) rfl 44)
                have z143 := (A138 6 (by decide) rfl x1.toNatClampNeg)
                have K144 : rcp M0 M133 o0 4 18480 (420 * x1.toNatClampNeg) i2_114.toInt := kKQ4_120.same (((sA_a A138 (by decide +kernel)) : sA [4] _ _ _) 4 rfl)
                have : (((20 * x1) + i2_120).toNatClampNeg : Int) = ((20 * x1) + i2_120).toInt := mz_nat9 (by omega)
                have : ((880 + i2_120).toNatClampNeg : Int) = (880 + i2_120).toInt := mz_nat9 (by omega)
                have : (x1.toNatClampNeg : Int) = x1.toInt := mz_nat9 (by omega)
                have K145 : rcp M0 M133 o0 7 880 (20 * x1.toNatClampNeg) (i2_120.toInt + 1) := kKQ7_120.st E137 (by omega) (by omega) e130 (by omega) (by omega) rfl
                have K146 : rcp M0 M133 o0 8 880 (20 * x1.toNatClampNeg) i2_120.toInt := kKQ8_120.same (((sA_a A138 (by decide +kernel)) : sA [8] _ _ _) 8 rfl)
                have K147 : rcp M0 M133 o0 10 880 (20 * x1.toNatClampNeg) i2_120.toInt := kKQ10_120.same (((sA_a A138 (by decide +kernel)) : sA [10] _ _ _) 10 rfl)
                have K148 : rcp M0 M133 o0 11 880 (20 * x1.toNatClampNeg) i2_120.toInt := kKQ11_120.same (((sA_a A138 (by decide +kernel)) : sA [11] _ _ _) 11 rfl)
                have K149 : rcp M0 M133 o0 12 880 (20 * x1.toNatClampNeg) i2_120.toInt := kKQ12_120.same (((sA_a A138 (by decide +kernel)) : sA [12] _ _ _) 12 rfl)
                refine mv_aload_n d_TrustDeskModel_stops_145 rfl rfl ?_
                obtain ⟨a151, q150, t_a151⟩ := tm_atR I134 h_q0_120 (k := 8) rfl
                refine tr_getK q150 d_TrustDeskModel_stops_146 f_TrustDeskModel_29_13 ?_
                refine mv_iload d_TrustDeskModel_stops_149 rfl ?_
                refine mv_aload_n d_TrustDeskModel_stops_151 rfl rfl ?_
                refine tr_getK (k := 8) q150 d_TrustDeskModel_stops_152 f_TrustDeskModel_29_13 ?_
                refine mv_iload_n d_TrustDeskModel_stops_155 rfl rfl ?_
                have b152 : (880 + i2_120 : Int32).toInt = (880 + i2_120.toInt) := mz_add2 (by decide) rfl (by omega) (by omega)
                refine tr_ialdR (o := o0) (k := 8) I134 q150 t_a151 (by decide) d_TrustDeskModel_stops_156 (vp_in_iff.mpr (by omega)) (fun v153 e154 => ?_)
                have := R136.a (k := 8) rfl ((880 + i2_120) : Int32).toNatClampNeg
                have b155 : (20 * x1 : Int32).toInt = (20 * x1.toInt) := mz_mul2 (by decide) rfl (by omega) (by omega)
                have b156 : ((20 * x1) + i2_120 : Int32).toInt = ((20 * x1.toInt) + i2_120.toInt) := mz_add2 b155 rfl (by omega) (by omega)
                refine tr_iastR (k := 8) I134 R136 (I134.up h_o0) q150 t_a151 (by decide) (by decide) (fun lo hi h => by cases h; exact ⟨by show ((-1) : Int) ≤ v153.toInt; omega, by show v153.toInt ≤ (720 : Int); omega⟩) (Or.inl (by decide)) d_TrustDeskModel_stops_157 (vp_in_iff.mpr (by omega)) (fun M157 I158 K159 R160 E161 A162 V163 => ?_)
                have z164 := (V163 19).trans z140
                have z165 := (A162 5 (by decide) rfl 44).trans z141
                have z166 := (A162 6 (by decide) rfl 44).trans z142
                have z167 := (A162 6 (by decide) rfl x1.toNatClampNeg).trans z143
                have K168 : rcp M0 M157 o0 4 18480 (420 * x1.toNatClampNeg) i2_114.toInt := K144.same (((sA_a A162 (by decide +kernel)) : sA [4] _ _ _) 4 rfl)
                have K169 : rcp M0 M157 o0 7 880 (20 * x1.toNatClampNeg) (i2_120.toInt + 1) := K145.same (((sA_a A162 (by decide +kernel)) : sA [7] _ _ _) 7 rfl)
                have K170 : rcp M0 M157 o0 8 880 (20 * x1.toNatClampNeg) (i2_120.toInt + 1) := K146.st E161 (by omega) (by omega) e154 (by omega) (by omega) rfl
                have K171 : rcp M0 M157 o0 10 880 (20 * x1.toNatClampNeg) i2_120.toInt := K147.same (((sA_a A162 (by decide +kernel)) : sA [10] _ _ _) 10 rfl)
                have K172 : rcp M0 M157 o0 11 880 (20 * x1.toNatClampNeg) i2_120.toInt := K148.same (((sA_a A162 (by decide +kernel)) : sA [11] _ _ _) 11 rfl)
                have K173 : rcp M0 M157 o0 12 880 (20 * x1.toNatClampNeg) i2_120.toInt := K149.same (((sA_a A162 (by decide +kernel)) : sA [12] _ _ _) 12 rfl)
                clear z141 z142 z143
                refine mv_aload_n d_TrustDeskModel_stops_158 rfl rfl ?_
                obtain ⟨a175, q174, t_a175⟩ := tm_atR I158 h_q0_120 (k := 9) rfl
                refine tr_getK q174 d_TrustDeskModel_stops_159 f_TrustDeskModel_32_13 ?_
                refine mv_iload d_TrustDeskModel_stops_162 rfl ?_
                refine mv_aload_n d_TrustDeskModel_stops_164 rfl rfl ?_
                refine tr_getK (k := 9) q174 d_TrustDeskModel_stops_165 f_TrustDeskModel_32_13 ?_
                refine mv_iload_n d_TrustDeskModel_stops_168 rfl rfl ?_
                have b176 : (880 + i2_120 : Int32).toInt = (880 + i2_120.toInt) := mz_add2 (by decide) rfl (by omega) (by omega)
                refine tr_ialdR (o := o0) (k := 9) I158 q174 t_a175 (by decide) d_TrustDeskModel_stops_169 (vp_in_iff.mpr (by omega)) (fun v177 e178 => ?_)
                have b179 : (20 * x1 : Int32).toInt = (20 * x1.toInt) := mz_mul2 (by decide) rfl (by omega) (by omega)
                have b180 : ((20 * x1) + i2_120 : Int32).toInt = ((20 * x1.toInt) + i2_120.toInt) := mz_add2 b179 rfl (by omega) (by omega)
                refine tr_iastR (k := 9) I158 R160 (I158.up h_o0) q174 t_a175 (by decide) (by decide) (fun lo hi h => by cases h) (Or.inl (by decide)) d_TrustDeskModel_stops_170 (vp_in_iff.mpr (by omega)) (fun M181 I182 K183 R184 E185 A186 V187 => ?_)
                have z188 := (V187 19).trans z164
                have z189 := (A186 5 (by decide) rfl 44).trans z165
                have z190 := (A186 6 (by decide) rfl 44).trans z166
                have z191 := (A186 6 (by decide) rfl x1.toNatClampNeg).trans z167
                have K192 : rcp M0 M181 o0 4 18480 (420 * x1.toNatClampNeg) i2_114.toInt := K168.same (((sA_a A186 (by decide +kernel)) : sA [4] _ _ _) 4 rfl)
                have K193 : rcp M0 M181 o0 7 880 (20 * x1.toNatClampNeg) (i2_120.toInt + 1) := K169.same (((sA_a A186 (by decide +kernel)) : sA [7] _ _ _) 7 rfl)
                have K194 : rcp M0 M181 o0 8 880 (20 * x1.toNatClampNeg) (i2_120.toInt + 1) := K170.same (((sA_a A186 (by decide +kernel)) : sA [8] _ _ _) 8 rfl)
                have K195 : rcp M0 M181 o0 10 880 (20 * x1.toNatClampNeg) i2_120.toInt := K171.same (((sA_a A186 (by decide +kernel)) : sA [10] _ _ _) 10 rfl)
                have K196 : rcp M0 M181 o0 11 880 (20 * x1.toNatClampNeg) i2_120.toInt := K172.same (((sA_a A186 (by decide +kernel)) : sA [11] _ _ _) 11 rfl)
                have K197 : rcp M0 M181 o0 12 880 (20 * x1.toNatClampNeg) i2_120.toInt := K173.same (((sA_a A186 (by decide +kernel)) : sA [12] _ _ _) 12 rfl)
                clear z165 z166 z167
                refine mv_aload_n d_TrustDeskModel_stops_171 rfl rfl ?_
                obtain ⟨a199, q198, t_a199⟩ := tm_atR I182 h_q0_120 (k := 10) rfl
                refine tr_getK q198 d_TrustDeskModel_stops_172 f_TrustDeskModel_35_13 ?_
                refine mv_iload d_TrustDeskModel_stops_175 rfl ?_
                refine mv_aload_n d_TrustDeskModel_stops_177 rfl rfl ?_
                refine tr_getK (k := 10) q198 d_TrustDeskModel_stops_178 f_TrustDeskModel_35_13 ?_
                refine mv_iload_n d_TrustDeskModel_stops_181 rfl rfl ?_
                have b200 : (880 + i2_120 : Int32).toInt = (880 + i2_120.toInt) := mz_add2 (by decide) rfl (by omega) (by omega)
                refine tr_ialdR (o := o0) (k := 10) I182 q198 t_a199 (by decide) d_TrustDeskModel_stops_182 (vp_in_iff.mpr (by omega)) (fun v201 e202 => ?_)
                have := R184.a (k := 10) rfl ((880 + i2_120) : Int32).toNatClampNeg
                have b203 : (20 * x1 : Int32).toInt = (20 * x1.toInt) := mz_mul2 (by decide) rfl (by omega) (by omega)
                have b204 : ((20 * x1) + i2_120 : Int32).toInt = ((20 * x1.toInt) + i2_120.toInt) := mz_add2 b203 rfl (by omega) (by omega)
                refine tr_iastR (k := 10) I182 R184 (I182.up h_o0) q198 t_a199 (by decide) (by decide) (fun lo hi h => by cases h; exact ⟨by show (0 : Int) ≤ v201.toInt; omega, by show v201.toInt ≤ (400 : Int); omega⟩) (Or.inl (by decide)) d_TrustDeskModel_stops_183 (vp_in_iff.mpr (by omega)) (fun M205 I206 K207 R208 E209 A210 V211 => ?_)
                have z212 := (V211 19).trans z188
                have z213 := (A210 5 (by decide) rfl 44).trans z189
                have z214 := (A210 6 (by decide) rfl 44).trans z190
                have z215 := (A210 6 (by decide) rfl x1.toNatClampNeg).trans z191
                have K216 : rcp M0 M205 o0 4 18480 (420 * x1.toNatClampNeg) i2_114.toInt := K192.same (((sA_a A210 (by decide +kernel)) : sA [4] _ _ _) 4 rfl)
                have K217 : rcp M0 M205 o0 7 880 (20 * x1.toNatClampNeg) (i2_120.toInt + 1) := K193.same (((sA_a A210 (by decide +kernel)) : sA [7] _ _ _) 7 rfl)
                have K218 : rcp M0 M205 o0 8 880 (20 * x1.toNatClampNeg) (i2_120.toInt + 1) := K194.same (((sA_a A210 (by decide +kernel)) : sA [8] _ _ _) 8 rfl)
                have K219 : rcp M0 M205 o0 10 880 (20 * x1.toNatClampNeg) (i2_120.toInt + 1) := K195.st E209 (by omega) (by omega) e202 (by omega) (by omega) rfl
                have K220 : rcp M0 M205 o0 11 880 (20 * x1.toNatClampNeg) i2_120.toInt := K196.same (((sA_a A210 (by decide +kernel)) : sA [11] _ _ _) 11 rfl)
                have K221 : rcp M0 M205 o0 12 880 (20 * x1.toNatClampNeg) i2_120.toInt := K197.same (((sA_a A210 (by decide +kernel)) : sA [12] _ _ _) 12 rfl)
                clear z189 z190 z191
                refine mv_aload_n d_TrustDeskModel_stops_184 rfl rfl ?_
                obtain ⟨a223, q222, t_a223⟩ := tm_atR I206 h_q0_120 (k := 11) rfl
                refine tr_getK q222 d_TrustDeskModel_stops_185 f_TrustDeskModel_38_13 ?_
                refine mv_iload d_TrustDeskModel_stops_188 rfl ?_
                refine mv_aload_n d_TrustDeskModel_stops_190 rfl rfl ?_
                refine tr_getK (k := 11) q222 d_TrustDeskModel_stops_191 f_TrustDeskModel_38_13 ?_
                refine mv_iload_n d_TrustDeskModel_stops_194 rfl rfl ?_
                have b224 : (880 + i2_120 : Int32).toInt = (880 + i2_120.toInt) := mz_add2 (by decide) rfl (by omega) (by omega)
                refine tr_ialdR (o := o0) (k := 11) I206 q222 t_a223 (by decide) d_TrustDeskModel_stops_195 (vp_in_iff.mpr (by omega)) (fun v225 e226 => ?_)
                have := R208.a (k := 11) rfl ((880 + i2_120) : Int32).toNatClampNeg
                have b227 : (20 * x1 : Int32).toInt = (20 * x1.toInt) := mz_mul2 (by decide) rfl (by omega) (by omega)
                have b228 : ((20 * x1) + i2_120 : Int32).toInt = ((20 * x1.toInt) + i2_120.toInt) := mz_add2 b227 rfl (by omega) (by omega)
                refine tr_iastR (k := 11) I206 R208 (I206.up h_o0) q222 t_a223 (by decide) (by decide) (fun lo hi h => by cases h; exact ⟨by show (0 : Int) ≤ v225.toInt; omega, by show v225.toInt ≤ (400 : Int); omega⟩) (Or.inl (by decide)) d_TrustDeskModel_stops_196 (vp_in_iff.mpr (by omega)) (fun M229 I230 K231 R232 E233 A234 V235 => ?_)
                have z236 := (V235 19).trans z212
                have z237 := (A234 5 (by decide) rfl 44).trans z213
                have z238 := (A234 6 (by decide) rfl 44).trans z214
                have z239 := (A234 6 (by decide) rfl x1.toNatClampNeg).trans z215
                have K240 : rcp M0 M229 o0 4 18480 (420 * x1.toNatClampNeg) i2_114.toInt := K216.same (((sA_a A234 (by decide +kernel)) : sA [4] _ _ _) 4 rfl)
                have K241 : rcp M0 M229 o0 7 880 (20 * x1.toNatClampNeg) (i2_120.toInt + 1) := K217.same (((sA_a A234 (by decide +kernel)) : sA [7] _ _ _) 7 rfl)
                have K242 : rcp M0 M229 o0 8 880 (20 * x1.toNatClampNeg) (i2_120.toInt + 1) := K218.same (((sA_a A234 (by decide +kernel)) : sA [8] _ _ _) 8 rfl)
                have K243 : rcp M0 M229 o0 10 880 (20 * x1.toNatClampNeg) (i2_120.toInt + 1) := K219.same (((sA_a A234 (by decide +kernel)) : sA [10] _ _ _) 10 rfl)
                have K244 : rcp M0 M229 o0 11 880 (20 * x1.toNatClampNeg) (i2_120.toInt + 1) := K220.st E233 (by omega) (by omega) e226 (by omega) (by omega) rfl
                have K245 : rcp M0 M229 o0 12 880 (20 * x1.toNatClampNeg) i2_120.toInt := K221.same (((sA_a A234 (by decide +kernel)) : sA [12] _ _ _) 12 rfl)
                clear z213 z214 z215
                refine mv_aload_n d_TrustDeskModel_stops_197 rfl rfl ?_
                obtain ⟨a247, q246, t_a247⟩ := tm_atR I230 h_q0_120 (k := 12) rfl
                refine tr_getK q246 d_TrustDeskModel_stops_198 f_TrustDeskModel_41_13 ?_
                refine mv_iload d_TrustDeskModel_stops_201 rfl ?_
                refine mv_aload_n d_TrustDeskModel_stops_203 rfl rfl ?_
                refine tr_getK (k := 12) q246 d_TrustDeskModel_stops_204 f_TrustDeskModel_41_13 ?_
                refine mv_iload_n d_TrustDeskModel_stops_207 rfl rfl ?_
                have b248 : (880 + i2_120 : Int32).toInt = (880 + i2_120.toInt) := mz_add2 (by decide) rfl (by omega) (by omega)
                refine tr_ialdR (o := o0) (k := 12) I230 q246 t_a247 (by decide) d_TrustDeskModel_stops_208 (vp_in_iff.mpr (by omega)) (fun v249 e250 => ?_)
                have := R232.a (k := 12) rfl ((880 + i2_120) : Int32).toNatClampNeg
                have b251 : (20 * x1 : Int32).toInt = (20 * x1.toInt) := mz_mul2 (by decide) rfl (by omega) (by omega)
                have b252 : ((20 * x1) + i2_120 : Int32).toInt = ((20 * x1.toInt) + i2_120.toInt) := mz_add2 b251 rfl (by omega) (by omega)
                refine tr_iastR (k := 12) I230 R232 (I230.up h_o0) q246 t_a247 (by decide) (by decide) (fun lo hi h => by cases h; exact ⟨by show (0 : Int) ≤ v249.toInt; omega, by show v249.toInt ≤ (400 : Int); omega⟩) (Or.inl (by decide)) d_TrustDeskModel_stops_209 (vp_in_iff.mpr (by omega)) (fun M253 I254 K255 R256 E257 A258 V259 => ?_)
                have z260 := (V259 19).trans z236
                have z261 := (A258 5 (by decide) rfl 44).trans z237
                have z262 := (A258 6 (by decide) rfl 44).trans z238
                have z263 := (A258 6 (by decide) rfl x1.toNatClampNeg).trans z239
                have K264 : rcp M0 M253 o0 4 18480 (420 * x1.toNatClampNeg) i2_114.toInt := K240.same (((sA_a A258 (by decide +kernel)) : sA [4] _ _ _) 4 rfl)
                have K265 : rcp M0 M253 o0 7 880 (20 * x1.toNatClampNeg) (i2_120.toInt + 1) := K241.same (((sA_a A258 (by decide +kernel)) : sA [7] _ _ _) 7 rfl)
                have K266 : rcp M0 M253 o0 8 880 (20 * x1.toNatClampNeg) (i2_120.toInt + 1) := K242.same (((sA_a A258 (by decide +kernel)) : sA [8] _ _ _) 8 rfl)
                have K267 : rcp M0 M253 o0 10 880 (20 * x1.toNatClampNeg) (i2_120.toInt + 1) := K243.same (((sA_a A258 (by decide +kernel)) : sA [10] _ _ _) 10 rfl)
                have K268 : rcp M0 M253 o0 11 880 (20 * x1.toNatClampNeg) (i2_120.toInt + 1) := K244.same (((sA_a A258 (by decide +kernel)) : sA [11] _ _ _) 11 rfl)
                have K269 : rcp M0 M253 o0 12 880 (20 * x1.toNatClampNeg) (i2_120.toInt + 1) := K245.st E257 (by omega) (by omega) e250 (by omega) (by omega) rfl
                clear z237 z238 z239
                refine mv_iinc (v := (i2_120 + 1)) (lv' := [(2, .int (i2_120 + 1)), (4, .int ((20 * x1) + i2_120)), (3, .int (880 + i2_120)), (0, .ref o0), (1, .int x1)]) d_TrustDeskModel_stops_210 rfl rfl (by decide) rfl ?_
                refine mv_goto (tgt := 107) d_TrustDeskModel_stops_213 (by decide) ?_
                have b270 : (i2_120 + 1 : Int32).toInt = (i2_120.toInt + 1) := mz_add2 rfl (by decide) (by omega) (by omega)
                have K271 : rcp M0 M253 o0 7 880 (20 * x1.toNatClampNeg) ((i2_120 + 1).toInt) := K265.cast (by omega)
                have K272 : rcp M0 M253 o0 8 880 (20 * x1.toNatClampNeg) ((i2_120 + 1).toInt) := K266.cast (by omega)
                have K273 : rcp M0 M253 o0 10 880 (20 * x1.toNatClampNeg) ((i2_120 + 1).toInt) := K267.cast (by omega)
                have K274 : rcp M0 M253 o0 11 880 (20 * x1.toNatClampNeg) ((i2_120 + 1).toInt) := K268.cast (by omega)
                have K275 : rcp M0 M253 o0 12 880 (20 * x1.toNatClampNeg) ((i2_120 + 1).toInt) := K269.cast (by omega)
                refine mv_locals (lv' := [(2, .int (i2_120 + 1)), (0, .ref o0), (1, .int x1)]) (by intro q hq; simp only [List.mem_cons, List.not_mem_nil, or_false] at hq; rcases hq with rfl | rfl | rfl <;> rfl) ?_
                have b276 : (i2_120 + 1).toInt = i2_120.toInt + 1 := mz_addn 1 1 (by decide) (by have := mz_lo i2_120; omega) (by have := mz_hi i2_120; omega)
                exact (ih120 (i2_120 + 1) T_120 M253 n_120 I254 h_q0_120 (by first | omega | decide | exact fun h9 => absurd (by decide) h9) (by first | omega | decide | exact fun h9 => absurd (by decide) h9) (by first | omega | decide | exact fun h9 => absurd (by decide) h9) (by first | omega | decide | exact fun h9 => absurd (by decide) h9) (by first | omega | decide | exact fun h9 => absurd (by decide) h9) (by first | omega | decide | exact fun h9 => absurd (by decide) h9) R256 K264 K271 K272 K273 K274 K275 (by omega))
          have : (0 : Int32).toInt = 0 := by decide
          exact mv_less (Nat.zero_le _) (Nat.zero_le _) (L107_120 4294967296 0 T_114 M_114 n_114 I_114 h_q0_114 (by first | omega | decide | exact fun h9 => absurd (by decide) h9) (by first | omega | decide | exact fun h9 => absurd (by decide) h9) (by first | omega | decide | exact fun h9 => absurd (by decide) h9) (by first | omega | decide | exact fun h9 => absurd (by decide) h9) (by first | omega | decide | exact fun h9 => absurd (by decide) h9) (by first | omega | decide | exact fun h9 => absurd (by decide) h9) kKR_114 kKQ4_114 kKQ7_114 kKQ8_114 kKQ10_114 kKQ11_114 kKQ12_114 (by show (2147483647 - (0 : Int) : Int) < _; decide))
        · refine mv_aload_n d_TrustDeskModel_stops_77 rfl rfl ?_
          obtain ⟨a278, q277, t_a278⟩ := tm_atR I_114 h_q0_114 (k := 4) rfl
          refine tr_getK q277 d_TrustDeskModel_stops_78 f_TrustDeskModel_17_13 ?_
          refine mv_sipush (v := 420) d_TrustDeskModel_stops_81 (by decide) ?_
          refine mv_iload_n d_TrustDeskModel_stops_84 rfl rfl ?_
          refine mv_imul d_TrustDeskModel_stops_85 ?_
          refine mv_iload_n d_TrustDeskModel_stops_86 rfl rfl ?_
          refine mv_iadd d_TrustDeskModel_stops_87 ?_
          refine mv_aload_n d_TrustDeskModel_stops_88 rfl rfl ?_
          refine tr_getK (k := 4) q277 d_TrustDeskModel_stops_89 f_TrustDeskModel_17_13 ?_
          refine mv_sipush (v := 18480) d_TrustDeskModel_stops_92 (by decide) ?_
          refine mv_iload_n d_TrustDeskModel_stops_95 rfl rfl ?_
          refine mv_iadd d_TrustDeskModel_stops_96 ?_
          have b279 : (18480 + i2_114 : Int32).toInt = (18480 + i2_114.toInt) := mz_add2 (by decide) rfl (by omega) (by omega)
          refine tr_ialdR (o := o0) (k := 4) I_114 q277 t_a278 (by decide) d_TrustDeskModel_stops_97 (vp_in_iff.mpr (by omega)) (fun v280 e281 => ?_)
          have := kKR_114.a (k := 4) rfl ((18480 + i2_114) : Int32).toNatClampNeg
          have b282 : (420 * x1 : Int32).toInt = (420 * x1.toInt) := mz_mul2 (by decide) rfl (by omega) (by omega)
          have b283 : ((420 * x1) + i2_114 : Int32).toInt = ((420 * x1.toInt) + i2_114.toInt) := mz_add2 b282 rfl (by omega) (by omega)
          refine tr_iastR (k := 4) I_114 kKR_114 (I_114.up h_o0) q277 t_a278 (by decide) (by decide) (fun lo hi h => by cases h; exact ⟨by show ((-9) : Int) ≤ v280.toInt; omega, by show v280.toInt ≤ (10012 : Int); omega⟩) (Or.inl (by decide)) d_TrustDeskModel_stops_98 (vp_in_iff.mpr (by omega)) (fun M284 I285 K286 R287 E288 A289 V290 => ?_)
          have z291 := (V290 19)
          have z292 := (A289 5 (by decide) rfl 44)
          have z293 := (A289 6 (by decide) rfl 44)
          have z294 := (A289 6 (by decide) rfl x1.toNatClampNeg)
          have : (((420 * x1) + i2_114).toNatClampNeg : Int) = ((420 * x1) + i2_114).toInt := mz_nat9 (by omega)
          have : ((18480 + i2_114).toNatClampNeg : Int) = (18480 + i2_114).toInt := mz_nat9 (by omega)
          have : (x1.toNatClampNeg : Int) = x1.toInt := mz_nat9 (by omega)
          have K295 : rcp M0 M284 o0 4 18480 (420 * x1.toNatClampNeg) (i2_114.toInt + 1) := kKQ4_114.st E288 (by omega) (by omega) e281 (by omega) (by omega) rfl
          have K296 : rcp M0 M284 o0 7 880 (20 * x1.toNatClampNeg) 0 := kKQ7_114.same (((sA_a A289 (by decide +kernel)) : sA [7] _ _ _) 7 rfl)
          have K297 : rcp M0 M284 o0 8 880 (20 * x1.toNatClampNeg) 0 := kKQ8_114.same (((sA_a A289 (by decide +kernel)) : sA [8] _ _ _) 8 rfl)
          have K298 : rcp M0 M284 o0 10 880 (20 * x1.toNatClampNeg) 0 := kKQ10_114.same (((sA_a A289 (by decide +kernel)) : sA [10] _ _ _) 10 rfl)
          have K299 : rcp M0 M284 o0 11 880 (20 * x1.toNatClampNeg) 0 := kKQ11_114.same (((sA_a A289 (by decide +kernel)) : sA [11] _ _ _) 11 rfl)
          have K300 : rcp M0 M284 o0 12 880 (20 * x1.toNatClampNeg) 0 := kKQ12_114.same (((sA_a A289 (by decide +kernel)) : sA [12] _ _ _) 12 rfl)
          refine mv_iinc (v := (i2_114 + 1)) (lv' := [(2, .int (i2_114 + 1)), (0, .ref o0), (1, .int x1)]) d_TrustDeskModel_stops_99 rfl rfl (by decide) rfl ?_
          refine mv_goto (tgt := 66) d_TrustDeskModel_stops_102 (by decide) ?_
          have b301 : (i2_114 + 1 : Int32).toInt = (i2_114.toInt + 1) := mz_add2 rfl (by decide) (by omega) (by omega)
          have K302 : rcp M0 M284 o0 4 18480 (420 * x1.toNatClampNeg) ((i2_114 + 1).toInt) := K295.cast (by omega)
          have b303 : (i2_114 + 1).toInt = i2_114.toInt + 1 := mz_addn 1 1 (by decide) (by have := mz_lo i2_114; omega) (by have := mz_hi i2_114; omega)
          exact (ih114 (i2_114 + 1) T_114 M284 n_114 I285 h_q0_114 (by first | omega | decide | exact fun h9 => absurd (by decide) h9) (by first | omega | decide | exact fun h9 => absurd (by decide) h9) (by first | omega | decide | exact fun h9 => absurd (by decide) h9) (by first | omega | decide | exact fun h9 => absurd (by decide) h9) (by first | omega | decide | exact fun h9 => absurd (by decide) h9) (by first | omega | decide | exact fun h9 => absurd (by decide) h9) R287 K302 K296 K297 K298 K299 K300 (by omega))
    have : (0 : Int32).toInt = 0 := by decide
    exact mv_less (Nat.zero_le _) (Nat.zero_le _) (L66_114 4294967296 0 T0 M95 n0 I96 h_o0 (by first | omega | decide | exact fun h9 => absurd (by decide) h9) (by first | omega | decide | exact fun h9 => absurd (by decide) h9) (by first | omega | decide | exact fun h9 => absurd (by decide) h9) (by first | omega | decide | exact fun h9 => absurd (by decide) h9) (by first | omega | decide | exact fun h9 => absurd (by decide) h9) (by first | omega | decide | exact fun h9 => absurd (by decide) h9) R98 K107 K108 K109 K110 K111 K112 (by show (2147483647 - (0 : Int) : Int) < _; decide))
