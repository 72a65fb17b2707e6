abbrev kY_TrustDeskModel_makes : mj_Y := (⟨"TrustDeskModel", "makes", "(I)V"⟩, prog_14_method_86_code, 5, (Option.none : Option Jvm.ClassFile.FieldType))
theorem d_TrustDeskModel_makes_0 : decode kY_TrustDeskModel_makes.2.1 0 = .ok (.aload_n 0, 1) := by decide +kernel
theorem d_TrustDeskModel_makes_1 : decode kY_TrustDeskModel_makes.2.1 1 = .ok (.getfield 125, 3) := by decide +kernel
theorem d_TrustDeskModel_makes_4 : decode kY_TrustDeskModel_makes.2.1 4 = .ok (.iload_n 1, 1) := by decide +kernel
theorem d_TrustDeskModel_makes_5 : decode kY_TrustDeskModel_makes.2.1 5 = .ok (.iaload, 1) := by decide +kernel
theorem d_TrustDeskModel_makes_6 : decode kY_TrustDeskModel_makes.2.1 6 = .ok (.istore_n 2, 1) := by decide +kernel
theorem d_TrustDeskModel_makes_7 : decode kY_TrustDeskModel_makes.2.1 7 = .ok (.aload_n 0, 1) := by decide +kernel
theorem d_TrustDeskModel_makes_8 : decode kY_TrustDeskModel_makes.2.1 8 = .ok (.getfield 128, 3) := by decide +kernel
theorem d_TrustDeskModel_makes_11 : decode kY_TrustDeskModel_makes.2.1 11 = .ok (.iload_n 1, 1) := by decide +kernel
theorem d_TrustDeskModel_makes_12 : decode kY_TrustDeskModel_makes.2.1 12 = .ok (.iaload, 1) := by decide +kernel
theorem d_TrustDeskModel_makes_13 : decode kY_TrustDeskModel_makes.2.1 13 = .ok (.istore_n 3, 1) := by decide +kernel
theorem d_TrustDeskModel_makes_14 : decode kY_TrustDeskModel_makes.2.1 14 = .ok (.aload_n 0, 1) := by decide +kernel
theorem d_TrustDeskModel_makes_15 : decode kY_TrustDeskModel_makes.2.1 15 = .ok (.getfield 122, 3) := by decide +kernel
theorem d_TrustDeskModel_makes_18 : decode kY_TrustDeskModel_makes.2.1 18 = .ok (.iload_n 1, 1) := by decide +kernel
theorem d_TrustDeskModel_makes_19 : decode kY_TrustDeskModel_makes.2.1 19 = .ok (.iaload, 1) := by decide +kernel
theorem d_TrustDeskModel_makes_20 : decode kY_TrustDeskModel_makes.2.1 20 = .ok (.tableswitch 163 0 2 #[28, 107, 116], 28) := by decide +kernel
theorem d_TrustDeskModel_makes_183 : decode kY_TrustDeskModel_makes.2.1 183 = .ok (.aload_n 0, 1) := by decide +kernel
theorem d_TrustDeskModel_makes_184 : decode kY_TrustDeskModel_makes.2.1 184 = .ok (.getfield 107, 3) := by decide +kernel
theorem d_TrustDeskModel_makes_187 : decode kY_TrustDeskModel_makes.2.1 187 = .ok (.bipush 80, 2) := by decide +kernel
theorem d_TrustDeskModel_makes_189 : decode kY_TrustDeskModel_makes.2.1 189 = .ok (.iload_n 2, 1) := by decide +kernel
theorem d_TrustDeskModel_makes_190 : decode kY_TrustDeskModel_makes.2.1 190 = .ok (.imul, 1) := by decide +kernel
theorem d_TrustDeskModel_makes_191 : decode kY_TrustDeskModel_makes.2.1 191 = .ok (.iload_n 3, 1) := by decide +kernel
theorem d_TrustDeskModel_makes_192 : decode kY_TrustDeskModel_makes.2.1 192 = .ok (.iadd, 1) := by decide +kernel
theorem d_TrustDeskModel_makes_193 : decode kY_TrustDeskModel_makes.2.1 193 = .ok (.iconst 2, 1) := by decide +kernel
theorem d_TrustDeskModel_makes_194 : decode kY_TrustDeskModel_makes.2.1 194 = .ok (.iastore, 1) := by decide +kernel
theorem d_TrustDeskModel_makes_195 : decode kY_TrustDeskModel_makes.2.1 195 = .ok (.return_, 1) := by decide +kernel
theorem d_TrustDeskModel_makes_48 : decode kY_TrustDeskModel_makes.2.1 48 = .ok (.bipush 80, 2) := by decide +kernel
theorem d_TrustDeskModel_makes_50 : decode kY_TrustDeskModel_makes.2.1 50 = .ok (.iload_n 2, 1) := by decide +kernel
theorem d_TrustDeskModel_makes_51 : decode kY_TrustDeskModel_makes.2.1 51 = .ok (.imul, 1) := by decide +kernel
theorem d_TrustDeskModel_makes_52 : decode kY_TrustDeskModel_makes.2.1 52 = .ok (.aload_n 0, 1) := by decide +kernel
theorem d_TrustDeskModel_makes_53 : decode kY_TrustDeskModel_makes.2.1 53 = .ok (.iload_n 2, 1) := by decide +kernel
theorem d_TrustDeskModel_makes_54 : decode kY_TrustDeskModel_makes.2.1 54 = .ok (.invokevirtual 515, 3) := by decide +kernel
theorem d_TrustDeskModel_makes_57 : decode kY_TrustDeskModel_makes.2.1 57 = .ok (.iadd, 1) := by decide +kernel
theorem d_TrustDeskModel_makes_58 : decode kY_TrustDeskModel_makes.2.1 58 = .ok (.istore 4, 2) := by decide +kernel
theorem d_TrustDeskModel_makes_60 : decode kY_TrustDeskModel_makes.2.1 60 = .ok (.aload_n 0, 1) := by decide +kernel
theorem d_TrustDeskModel_makes_61 : decode kY_TrustDeskModel_makes.2.1 61 = .ok (.getfield 101, 3) := by decide +kernel
theorem d_TrustDeskModel_makes_64 : decode kY_TrustDeskModel_makes.2.1 64 = .ok (.iload 4, 2) := by decide +kernel
theorem d_TrustDeskModel_makes_66 : decode kY_TrustDeskModel_makes.2.1 66 = .ok (.bipush 32, 2) := by decide +kernel
theorem d_TrustDeskModel_makes_68 : decode kY_TrustDeskModel_makes.2.1 68 = .ok (.iload_n 3, 1) := by decide +kernel
theorem d_TrustDeskModel_makes_69 : decode kY_TrustDeskModel_makes.2.1 69 = .ok (.iadd, 1) := by decide +kernel
theorem d_TrustDeskModel_makes_70 : decode kY_TrustDeskModel_makes.2.1 70 = .ok (.iastore, 1) := by decide +kernel
theorem d_TrustDeskModel_makes_71 : decode kY_TrustDeskModel_makes.2.1 71 = .ok (.aload_n 0, 1) := by decide +kernel
theorem d_TrustDeskModel_makes_72 : decode kY_TrustDeskModel_makes.2.1 72 = .ok (.getfield 104, 3) := by decide +kernel
theorem d_TrustDeskModel_makes_75 : decode kY_TrustDeskModel_makes.2.1 75 = .ok (.iload 4, 2) := by decide +kernel
theorem d_TrustDeskModel_makes_77 : decode kY_TrustDeskModel_makes.2.1 77 = .ok (.bipush 20, 2) := by decide +kernel
theorem d_TrustDeskModel_makes_79 : decode kY_TrustDeskModel_makes.2.1 79 = .ok (.bipush 32, 2) := by decide +kernel
theorem d_TrustDeskModel_makes_81 : decode kY_TrustDeskModel_makes.2.1 81 = .ok (.iload_n 3, 1) := by decide +kernel
theorem d_TrustDeskModel_makes_82 : decode kY_TrustDeskModel_makes.2.1 82 = .ok (.iadd, 1) := by decide +kernel
theorem d_TrustDeskModel_makes_83 : decode kY_TrustDeskModel_makes.2.1 83 = .ok (.imul, 1) := by decide +kernel
theorem d_TrustDeskModel_makes_84 : decode kY_TrustDeskModel_makes.2.1 84 = .ok (.iastore, 1) := by decide +kernel
theorem d_TrustDeskModel_makes_85 : decode kY_TrustDeskModel_makes.2.1 85 = .ok (.aload_n 0, 1) := by decide +kernel
theorem d_TrustDeskModel_makes_86 : decode kY_TrustDeskModel_makes.2.1 86 = .ok (.getfield 107, 3) := by decide +kernel
theorem d_TrustDeskModel_makes_89 : decode kY_TrustDeskModel_makes.2.1 89 = .ok (.iload 4, 2) := by decide +kernel
theorem d_TrustDeskModel_makes_91 : decode kY_TrustDeskModel_makes.2.1 91 = .ok (.iconst 0, 1) := by decide +kernel
theorem d_TrustDeskModel_makes_92 : decode kY_TrustDeskModel_makes.2.1 92 = .ok (.iastore, 1) := by decide +kernel
theorem d_TrustDeskModel_makes_93 : decode kY_TrustDeskModel_makes.2.1 93 = .ok (.aload_n 0, 1) := by decide +kernel
theorem d_TrustDeskModel_makes_94 : decode kY_TrustDeskModel_makes.2.1 94 = .ok (.getfield 110, 3) := by decide +kernel
theorem d_TrustDeskModel_makes_97 : decode kY_TrustDeskModel_makes.2.1 97 = .ok (.iload 4, 2) := by decide +kernel
theorem d_TrustDeskModel_makes_99 : decode kY_TrustDeskModel_makes.2.1 99 = .ok (.iconst 0, 1) := by decide +kernel
theorem d_TrustDeskModel_makes_100 : decode kY_TrustDeskModel_makes.2.1 100 = .ok (.iastore, 1) := by decide +kernel
theorem d_TrustDeskModel_makes_101 : decode kY_TrustDeskModel_makes.2.1 101 = .ok (.aload_n 0, 1) := by decide +kernel
theorem d_TrustDeskModel_makes_102 : decode kY_TrustDeskModel_makes.2.1 102 = .ok (.getfield 113, 3) := by decide +kernel
theorem d_TrustDeskModel_makes_105 : decode kY_TrustDeskModel_makes.2.1 105 = .ok (.iload 4, 2) := by decide +kernel
theorem d_TrustDeskModel_makes_107 : decode kY_TrustDeskModel_makes.2.1 107 = .ok (.iconst (-1), 1) := by decide +kernel
theorem d_TrustDeskModel_makes_108 : decode kY_TrustDeskModel_makes.2.1 108 = .ok (.iastore, 1) := by decide +kernel
theorem d_TrustDeskModel_makes_109 : decode kY_TrustDeskModel_makes.2.1 109 = .ok (.aload_n 0, 1) := by decide +kernel
theorem d_TrustDeskModel_makes_110 : decode kY_TrustDeskModel_makes.2.1 110 = .ok (.getfield 76, 3) := by decide +kernel
theorem d_TrustDeskModel_makes_113 : decode kY_TrustDeskModel_makes.2.1 113 = .ok (.iload_n 2, 1) := by decide +kernel
theorem d_TrustDeskModel_makes_114 : decode kY_TrustDeskModel_makes.2.1 114 = .ok (.dup2, 1) := by decide +kernel
theorem d_TrustDeskModel_makes_115 : decode kY_TrustDeskModel_makes.2.1 115 = .ok (.iaload, 1) := by decide +kernel
theorem d_TrustDeskModel_makes_116 : decode kY_TrustDeskModel_makes.2.1 116 = .ok (.aload_n 0, 1) := by decide +kernel
theorem d_TrustDeskModel_makes_117 : decode kY_TrustDeskModel_makes.2.1 117 = .ok (.getfield 116, 3) := by decide +kernel
theorem d_TrustDeskModel_makes_120 : decode kY_TrustDeskModel_makes.2.1 120 = .ok (.iload_n 3, 1) := by decide +kernel
theorem d_TrustDeskModel_makes_121 : decode kY_TrustDeskModel_makes.2.1 121 = .ok (.iaload, 1) := by decide +kernel
theorem d_TrustDeskModel_makes_122 : decode kY_TrustDeskModel_makes.2.1 122 = .ok (.iand, 1) := by decide +kernel
theorem d_TrustDeskModel_makes_123 : decode kY_TrustDeskModel_makes.2.1 123 = .ok (.iastore, 1) := by decide +kernel
theorem d_TrustDeskModel_makes_124 : decode kY_TrustDeskModel_makes.2.1 124 = .ok (.goto 71, 3) := by decide +kernel
theorem d_TrustDeskModel_makes_127 : decode kY_TrustDeskModel_makes.2.1 127 = .ok (.aload_n 0, 1) := by decide +kernel
theorem d_TrustDeskModel_makes_128 : decode kY_TrustDeskModel_makes.2.1 128 = .ok (.iload_n 2, 1) := by decide +kernel
theorem d_TrustDeskModel_makes_129 : decode kY_TrustDeskModel_makes.2.1 129 = .ok (.iload_n 3, 1) := by decide +kernel
theorem d_TrustDeskModel_makes_130 : decode kY_TrustDeskModel_makes.2.1 130 = .ok (.invokevirtual 548, 3) := by decide +kernel
theorem lV_TrustDeskModel_548 : mj_lV "TrustDeskModel" 548 kY_TrustDeskModel_joins 2 := ⟨⟨(mj_in1 (List.mem_of_getElem? (i := 1981) (by decide +kernel)) rfl), (mj_in1 (List.mem_of_getElem? (i := 10) (by decide +kernel)) rfl), (mj_in1 (List.mem_of_getElem? (i := 1984) (by decide +kernel)) rfl), by decide, rfl, by decide⟩, (mj_in1 (List.mem_of_getElem? (i := 1983) (by decide +kernel)) rfl), (mj_in (List.mem_append_left _ (List.mem_of_getElem? (i := 135) (by decide +kernel))) rfl)⟩
theorem d_TrustDeskModel_makes_133 : decode kY_TrustDeskModel_makes.2.1 133 = .ok (.goto 62, 3) := by decide +kernel
theorem d_TrustDeskModel_makes_136 : decode kY_TrustDeskModel_makes.2.1 136 = .ok (.aload_n 0, 1) := by decide +kernel
theorem d_TrustDeskModel_makes_137 : decode kY_TrustDeskModel_makes.2.1 137 = .ok (.getfield 66, 3) := by decide +kernel
theorem d_TrustDeskModel_makes_140 : decode kY_TrustDeskModel_makes.2.1 140 = .ok (.iload_n 2, 1) := by decide +kernel
theorem d_TrustDeskModel_makes_141 : decode kY_TrustDeskModel_makes.2.1 141 = .ok (.dup2, 1) := by decide +kernel
theorem d_TrustDeskModel_makes_142 : decode kY_TrustDeskModel_makes.2.1 142 = .ok (.iaload, 1) := by decide +kernel
theorem d_TrustDeskModel_makes_143 : decode kY_TrustDeskModel_makes.2.1 143 = .ok (.iload_n 3, 1) := by decide +kernel
theorem d_TrustDeskModel_makes_144 : decode kY_TrustDeskModel_makes.2.1 144 = .ok (.isub, 1) := by decide +kernel
theorem d_TrustDeskModel_makes_145 : decode kY_TrustDeskModel_makes.2.1 145 = .ok (.iastore, 1) := by decide +kernel
theorem d_TrustDeskModel_makes_146 : decode kY_TrustDeskModel_makes.2.1 146 = .ok (.aload_n 0, 1) := by decide +kernel
theorem d_TrustDeskModel_makes_147 : decode kY_TrustDeskModel_makes.2.1 147 = .ok (.iload_n 2, 1) := by decide +kernel
theorem d_TrustDeskModel_makes_148 : decode kY_TrustDeskModel_makes.2.1 148 = .ok (.iload_n 3, 1) := by decide +kernel
theorem d_TrustDeskModel_makes_149 : decode kY_TrustDeskModel_makes.2.1 149 = .ok (.i2l, 1) := by decide +kernel
theorem d_TrustDeskModel_makes_150 : decode kY_TrustDeskModel_makes.2.1 150 = .ok (.aload_n 0, 1) := by decide +kernel
theorem d_TrustDeskModel_makes_151 : decode kY_TrustDeskModel_makes.2.1 151 = .ok (.bipush 6, 2) := by decide +kernel
theorem d_TrustDeskModel_makes_153 : decode kY_TrustDeskModel_makes.2.1 153 = .ok (.aload_n 0, 1) := by decide +kernel
theorem d_TrustDeskModel_makes_154 : decode kY_TrustDeskModel_makes.2.1 154 = .ok (.invokevirtual 518, 3) := by decide +kernel
theorem d_TrustDeskModel_makes_157 : decode kY_TrustDeskModel_makes.2.1 157 = .ok (.aload_n 0, 1) := by decide +kernel
theorem d_TrustDeskModel_makes_158 : decode kY_TrustDeskModel_makes.2.1 158 = .ok (.getfield 164, 3) := by decide +kernel
theorem d_TrustDeskModel_makes_161 : decode kY_TrustDeskModel_makes.2.1 161 = .ok (.invokevirtual 185, 3) := by decide +kernel
theorem d_TrustDeskModel_makes_164 : decode kY_TrustDeskModel_makes.2.1 164 = .ok (.i2l, 1) := by decide +kernel
theorem d_TrustDeskModel_makes_165 : decode kY_TrustDeskModel_makes.2.1 165 = .ok (.lmul, 1) := by decide +kernel
theorem d_TrustDeskModel_makes_166 : decode kY_TrustDeskModel_makes.2.1 166 = .ok (.aload_n 0, 1) := by decide +kernel
theorem d_TrustDeskModel_makes_167 : decode kY_TrustDeskModel_makes.2.1 167 = .ok (.aload_n 0, 1) := by decide +kernel
theorem d_TrustDeskModel_makes_168 : decode kY_TrustDeskModel_makes.2.1 168 = .ok (.getfield 164, 3) := by decide +kernel
theorem d_TrustDeskModel_makes_171 : decode kY_TrustDeskModel_makes.2.1 171 = .ok (.iconst 5, 1) := by decide +kernel
theorem d_TrustDeskModel_makes_172 : decode kY_TrustDeskModel_makes.2.1 172 = .ok (.invokevirtual 396, 3) := by decide +kernel
theorem d_TrustDeskModel_makes_175 : decode kY_TrustDeskModel_makes.2.1 175 = .ok (.i2l, 1) := by decide +kernel
theorem d_TrustDeskModel_makes_176 : decode kY_TrustDeskModel_makes.2.1 176 = .ok (.lmul, 1) := by decide +kernel
theorem d_TrustDeskModel_makes_177 : decode kY_TrustDeskModel_makes.2.1 177 = .ok (.invokevirtual 479, 3) := by decide +kernel
theorem d_TrustDeskModel_makes_180 : decode kY_TrustDeskModel_makes.2.1 180 = .ok (.goto 15, 3) := by decide +kernel
def w_TrustDeskModel_makes_x : List Nat := [20033, 20034, 20035, 20036, 20037, 20040, 20041, 20043, 20044, 20045, 20046, 20047, 20048]
set_option maxHeartbeats 100000000 in theorem tc_TrustDeskModel_makes_x {g : mj_G} {l : Launch} {d : Nat} {T0 : tm_H} {M0 : mj_M} {n0 x9 : Nat} {o0 : Nat} {x1 : Int32} (h_o0 : T0 o0 = some (0, 13, 0)) (hn0 : 0 ≤ x1.toInt ∧ x1.toInt ≤ 39) (yR : rI M0 o0) (yC : rC M0 o0 44) (yP : rP M0 o0) (yB : rB M0 o0 12) (yX : rX M0 o0) (ys : x1.toInt < rv M0 o0 53) (yCB : rCB M0 o0 x1.toNatClampNeg) (I0 : tm_I tm_FT (tm_in w_TrustDeskModel_makes_x) x9 T0 M0 n0 T0 M0 n0) : mj_Met g l kY_TrustDeskModel_makes (d + 4) [.ref o0, .int x1] M0 n0 0 0 (tm_Q tm_FT (tm_in w_TrustDeskModel_makes_x) x9 T0 M0 n0 (fun r _ M => r = none ∧ rI M o0 ∧ (rC M o0 44) ∧ (rP M o0) ∧ (rB M o0 12))) := by
  refine mj_enter (by decide) (Nat.le_of_ble_eq_true rfl) ?_
  have K1 : rC M0 o0 44 := yC
  have K2 : rP M0 o0 := yP
  have K3 : rB M0 o0 12 := yB
  have K4 : rX M0 o0 := yX
  obtain ⟨cb1, cb2, cb3, cb4, cb5, cb6, cb7⟩ := yCB
  refine mv_aload_n d_TrustDeskModel_makes_0 rfl rfl ?_
  obtain ⟨a6, q5, t_a6⟩ := tm_atR I0 h_o0 (k := 55) rfl
  refine tr_getK q5 d_TrustDeskModel_makes_1 f_TrustDeskModel_125_13 ?_
  refine mv_iload_n d_TrustDeskModel_makes_4 rfl rfl ?_
  refine tr_ialdR (o := o0) (k := 55) I0 q5 t_a6 (by decide) d_TrustDeskModel_makes_5 (vp_in_iff.mpr (by have := yR.1 32 _ _ rfl; have := yR.1 49 _ _ rfl; have := yR.1 53 _ _ rfl; omega)) (fun v7 e8 => ?_)
  have := yR.a (k := 55) rfl (x1 : Int32).toNatClampNeg
  have hF : (ra M0 o0 55 x1.toNatClampNeg).toNat = v7.toNatClampNeg := (by have := mz_nat9 (i := v7) (by have := yR.1 32 _ _ rfl; have := yR.1 49 _ _ rfl; have := yR.1 53 _ _ rfl; omega); have := yR.1 32 _ _ rfl; have := yR.1 49 _ _ rfl; have := yR.1 53 _ _ rfl; omega)
  rw [hF] at cb3 cb4 cb6 cb7
  have := yR.2 43 _ _ rfl v7.toNatClampNeg
  refine mv_istore_n (lv' := [(2, .int v7), (0, .ref o0), (1, .int x1)]) d_TrustDeskModel_makes_6 rfl (by decide) rfl ?_
  refine mv_aload_n d_TrustDeskModel_makes_7 rfl rfl ?_
  obtain ⟨a10, q9, t_a10⟩ := tm_atR I0 h_o0 (k := 56) rfl
  refine tr_getK q9 d_TrustDeskModel_makes_8 f_TrustDeskModel_128_13 ?_
  refine mv_iload_n d_TrustDeskModel_makes_11 rfl rfl ?_
  refine tr_ialdR (o := o0) (k := 56) I0 q9 t_a10 (by decide) d_TrustDeskModel_makes_12 (vp_in_iff.mpr (by have := yR.1 32 _ _ rfl; have := yR.1 49 _ _ rfl; have := yR.1 53 _ _ rfl; omega)) (fun v11 e12 => ?_)
  have := K4 x1.toNatClampNeg (by have := mz_nat9 (i := x1) (by have := yR.1 32 _ _ rfl; have := yR.1 49 _ _ rfl; have := yR.1 53 _ _ rfl; omega); omega) (by have := mz_nat9 (i := x1) (by have := yR.1 32 _ _ rfl; have := yR.1 49 _ _ rfl; have := yR.1 53 _ _ rfl; omega); omega)
  have hX : (ra M0 o0 56 x1.toNatClampNeg).toNat = v11.toNatClampNeg := (by have := mz_nat9 (i := v11) (by have := yR.1 32 _ _ rfl; have := yR.1 49 _ _ rfl; have := yR.1 53 _ _ rfl; omega); have := yR.1 32 _ _ rfl; have := yR.1 49 _ _ rfl; have := yR.1 53 _ _ rfl; omega)
  rw [hX] at cb5
  refine mv_istore_n (lv' := [(3, .int v11), (2, .int v7), (0, .ref o0), (1, .int x1)]) d_TrustDeskModel_makes_13 rfl (by decide) rfl ?_
  refine mv_aload_n d_TrustDeskModel_makes_14 rfl rfl ?_
  obtain ⟨a14, q13, t_a14⟩ := tm_atR I0 h_o0 (k := 54) rfl
  refine tr_getK q13 d_TrustDeskModel_makes_15 f_TrustDeskModel_122_13 ?_
  refine mv_iload_n d_TrustDeskModel_makes_18 rfl rfl ?_
  refine tr_ialdR (o := o0) (k := 54) I0 q13 t_a14 (by decide) d_TrustDeskModel_makes_19 (vp_in_iff.mpr (by have := yR.1 32 _ _ rfl; have := yR.1 49 _ _ rfl; have := yR.1 53 _ _ rfl; omega)) (fun v15 e16 => ?_)
  have := yR.a (k := 54) rfl (x1 : Int32).toNatClampNeg
  have := K4 x1.toNatClampNeg (by have := mz_nat9 (i := x1) (by have := yR.1 32 _ _ rfl; have := yR.1 49 _ _ rfl; have := yR.1 53 _ _ rfl; omega); omega) (by have := mz_nat9 (i := x1) (by have := yR.1 32 _ _ rfl; have := yR.1 49 _ _ rfl; have := yR.1 53 _ _ rfl; omega); omega)
  rcases (show (v15.toInt < 0 ∨ 2 < v15.toInt) ∨ v15.toInt = 0 ∨ v15.toInt = 1 ∨ v15.toInt = 2 by omega) with b17 | b17 | b17 | b17
  · refine mv_tableOut (tgt := 183) d_TrustDeskModel_makes_20 b17 (by decide) ?_
    refine mv_aload_n d_TrustDeskModel_makes_183 rfl rfl ?_
    obtain ⟨a19, q18, t_a19⟩ := tm_atR I0 h_o0 (k := 46) rfl
    refine tr_getK q18 d_TrustDeskModel_makes_184 f_TrustDeskModel_107_13 ?_
    refine mv_bipush (v := 80) d_TrustDeskModel_makes_187 (by decide) ?_
    refine mv_iload_n d_TrustDeskModel_makes_189 rfl rfl ?_
    refine mv_imul d_TrustDeskModel_makes_190 ?_
    refine mv_iload_n d_TrustDeskModel_makes_191 rfl rfl ?_
    refine mv_iadd d_TrustDeskModel_makes_192 ?_
    refine mv_iconst (v := 2) d_TrustDeskModel_makes_193 (by decide) ?_
    have b20 : (80 * v7 : Int32).toInt = (80 * v7.toInt) := mz_mul2 (by decide) rfl (by have := yR.1 32 _ _ rfl; have := yR.1 49 _ _ rfl; have := yR.1 53 _ _ rfl; omega) (by have := yR.1 32 _ _ rfl; have := yR.1 49 _ _ rfl; have := yR.1 53 _ _ rfl; omega)
    have b21 : ((80 * v7) + v11 : Int32).toInt = ((80 * v7.toInt) + v11.toInt) := mz_add2 b20 rfl (by have := yR.1 32 _ _ rfl; have := yR.1 49 _ _ rfl; have := yR.1 53 _ _ rfl; omega) (by have := yR.1 32 _ _ rfl; have := yR.1 49 _ _ rfl; have := yR.1 53 _ _ rfl; omega)
    refine tr_iastR (k := 46) I0 yR (I0.up h_o0) q18 t_a19 (by decide) (by decide) (fun lo hi h => by cases h) (Or.inl (by decide)) d_TrustDeskModel_makes_194 (vp_in_iff.mpr (by have := yR.1 32 _ _ rfl; have := yR.1 49 _ _ rfl; have := yR.1 53 _ _ rfl; omega)) (fun M22 I23 K24 R25 E26 A27 V28 => ?_)
    have z29 := (V28 32)
    have z30 := (V28 49)
    have z31 := (V28 53)
    have K32 : rC M22 o0 44 := K1.same (sA_a A27 (by decide +kernel)) (sF_a V28)
    have K33 : rP M22 o0 := K2.same (sA_a A27 (by decide +kernel)) (sF_a V28)
    have K34 : rB M22 o0 12 := K3.same (sA_a A27 (by decide +kernel)) (sF_a V28)
    have K35 : rX M22 o0 := K4.same (sA_a A27 (by decide +kernel)) (sF_a V28)
    exact mv_vret d_TrustDeskModel_makes_195 rfl ⟨_, I23, rfl, R25, K32, K33, K34⟩
  · refine mv_tableIn (tgt := 48) (off := 28) d_TrustDeskModel_makes_20 (by omega) (by omega) (by rw [b17]; rfl) (by decide) ?_
    refine mv_bipush (v := 80) d_TrustDeskModel_makes_48 (by decide) ?_
    refine mv_iload_n d_TrustDeskModel_makes_50 rfl rfl ?_
    refine mv_imul d_TrustDeskModel_makes_51 ?_
    refine mv_aload_n d_TrustDeskModel_makes_52 rfl rfl ?_
    refine mv_iload_n d_TrustDeskModel_makes_53 rfl rfl ?_
    obtain ⟨_, b42, -⟩ := I0.1 _ _ h_o0
    refine mv_callV (kc' := 0) (ks' := 0) (As := [.int v7]) (st9 := [.int v7, .ref o0, .int (80 * v7)]) d_TrustDeskModel_makes_54 lV_TrustDeskModel_515 b42 rfl (tc_TrustDeskModel_firstDead_x (d := (d + 3)) (x9 := x9) (o0 := o0) (x1 := v7) h_o0 (by have := yR.1 32 _ _ rfl; have := yR.1 49 _ _ rfl; have := yR.1 53 _ _ rfl; omega) yR I0.start) rfl (Nat.le_of_ble_eq_true rfl) (Nat.le_of_ble_eq_true rfl) (Nat.le_of_ble_eq_true rfl) (hst := rfl) (fun b36r M37 n38 b36 => ?_)
    obtain ⟨T39, J40, v43, rfl, R44, f45, f46⟩ := b36
    have I41 := I0.call J40 (tm_sub (by decide)) (Or.inl rfl)
    have t47 := J40.up h_o0
    replace f45 := Im.i f45
    replace f46 := Im.i f46
    have z48 := (rv_c I0 J40 (I0.up h_o0) (k := 32) rfl)
    have z49 := (rv_c I0 J40 (I0.up h_o0) (k := 49) rfl)
    have z50 := (rv_c I0 J40 (I0.up h_o0) (k := 53) rfl)
    have K51 : rC M37 o0 44 := K1.same (sA_c I0 J40 (I0.up h_o0) (by decide +kernel)) (sF_c I0 J40 (I0.up h_o0) (by decide +kernel))
    have K52 : rP M37 o0 := K2.same (sA_c I0 J40 (I0.up h_o0) (by decide +kernel)) (sF_c I0 J40 (I0.up h_o0) (by decide +kernel))
    have K53 : rB M37 o0 12 := K3.same (sA_c I0 J40 (I0.up h_o0) (by decide +kernel)) (sF_c I0 J40 (I0.up h_o0) (by decide +kernel))
    have K54 : rX M37 o0 := K4.same (sA_c I0 J40 (I0.up h_o0) (by decide +kernel)) (sF_c I0 J40 (I0.up h_o0) (by decide +kernel))
    have := f46.o (fun h9 => f45.o h9 (cb4 (by omega)))
    have q55 := J40.keep h_o0 (by decide) q5
    have t56 := J40.up t_a6
    have q57 := J40.keep h_o0 (by decide) q9
    have t58 := J40.up t_a10
    have q59 := J40.keep h_o0 (by decide) q13
    have t60 := J40.up t_a14
    refine mv_iadd d_TrustDeskModel_makes_57 ?_
    refine mv_istore (lv' := [(4, .int ((80 * v7) + v43)), (3, .int v11), (2, .int v7), (0, .ref o0), (1, .int x1)]) d_TrustDeskModel_makes_58 (by decide) rfl ?_
    refine mv_aload_n d_TrustDeskModel_makes_60 rfl rfl ?_
    obtain ⟨a62, q61, t_a62⟩ := tm_atR I41 t47 (k := 44) rfl
    refine tr_getK q61 d_TrustDeskModel_makes_61 f_TrustDeskModel_101_13 ?_
    refine mv_iload d_TrustDeskModel_makes_64 rfl ?_
    refine mv_bipush (v := 32) d_TrustDeskModel_makes_66 (by decide) ?_
    refine mv_iload_n d_TrustDeskModel_makes_68 rfl rfl ?_
    refine mv_iadd d_TrustDeskModel_makes_69 ?_
    have b63 : (80 * v7 : Int32).toInt = (80 * v7.toInt) := mz_mul2 (by decide) rfl (by have := R44.1 32 _ _ rfl; have := R44.1 49 _ _ rfl; have := R44.1 53 _ _ rfl; omega) (by have := R44.1 32 _ _ rfl; have := R44.1 49 _ _ rfl; have := R44.1 53 _ _ rfl; omega)
    have b64 : ((80 * v7) + v43 : Int32).toInt = ((80 * v7.toInt) + v43.toInt) := mz_add2 b63 rfl (by have := R44.1 32 _ _ rfl; have := R44.1 49 _ _ rfl; have := R44.1 53 _ _ rfl; omega) (by have := R44.1 32 _ _ rfl; have := R44.1 49 _ _ rfl; have := R44.1 53 _ _ rfl; omega)
    have b65 : (32 + v11 : Int32).toInt = (32 + v11.toInt) := mz_add2 (by decide) rfl (by have := R44.1 32 _ _ rfl; have := R44.1 49 _ _ rfl; have := R44.1 53 _ _ rfl; omega) (by have := R44.1 32 _ _ rfl; have := R44.1 49 _ _ rfl; have := R44.1 53 _ _ rfl; omega)
    refine tr_iastR (k := 44) I41 R44 (I41.up h_o0) q61 t_a62 (by decide) (by decide) (fun lo hi h => by cases h; have := R44.1 32 _ _ rfl; have := R44.1 49 _ _ rfl; have := R44.1 53 _ _ rfl; exact ⟨by show (0 : Int) ≤ (32 + v11).toInt; omega, by show (32 + v11).toInt ≤ (43 : Int); omega⟩) (Or.inl (by decide)) d_TrustDeskModel_makes_70 (vp_in_iff.mpr (by have := R44.1 32 _ _ rfl; have := R44.1 49 _ _ rfl; have := R44.1 53 _ _ rfl; omega)) (fun M66 I67 K68 R69 E70 A71 V72 => ?_)
    have z73 := (V72 32).trans z48
    have z74 := (V72 49).trans z49
    have z75 := (V72 53).trans z50
    have : v11.toInt < rv M37 o0 49 := (by have := R44.1 32 _ _ rfl; have := R44.1 49 _ _ rfl; have := R44.1 53 _ _ rfl; omega)
    have K76 : rP M66 o0 := K52.same (sA_a A71 (by decide +kernel)) (sF_a V72)
    have K77 : rB M66 o0 12 := K53.same (sA_a A71 (by decide +kernel)) (sF_a V72)
    have K78 : rX M66 o0 := K54.same (sA_a A71 (by decide +kernel)) (sF_a V72)
    clear z48 z49 z50
    refine mv_aload_n d_TrustDeskModel_makes_71 rfl rfl ?_
    obtain ⟨a80, q79, t_a80⟩ := tm_atR I67 t47 (k := 45) rfl
    refine tr_getK q79 d_TrustDeskModel_makes_72 f_TrustDeskModel_104_13 ?_
    refine mv_iload d_TrustDeskModel_makes_75 rfl ?_
    refine mv_bipush (v := 20) d_TrustDeskModel_makes_77 (by decide) ?_
    refine mv_bipush (v := 32) d_TrustDeskModel_makes_79 (by decide) ?_
    refine mv_iload_n d_TrustDeskModel_makes_81 rfl rfl ?_
    refine mv_iadd d_TrustDeskModel_makes_82 ?_
    refine mv_imul d_TrustDeskModel_makes_83 ?_
    have b81 : (80 * v7 : Int32).toInt = (80 * v7.toInt) := mz_mul2 (by decide) rfl (by have := R69.1 32 _ _ rfl; have := R69.1 49 _ _ rfl; have := R69.1 53 _ _ rfl; omega) (by have := R69.1 32 _ _ rfl; have := R69.1 49 _ _ rfl; have := R69.1 53 _ _ rfl; omega)
    have b82 : ((80 * v7) + v43 : Int32).toInt = ((80 * v7.toInt) + v43.toInt) := mz_add2 b81 rfl (by have := R69.1 32 _ _ rfl; have := R69.1 49 _ _ rfl; have := R69.1 53 _ _ rfl; omega) (by have := R69.1 32 _ _ rfl; have := R69.1 49 _ _ rfl; have := R69.1 53 _ _ rfl; omega)
    have b83 : (32 + v11 : Int32).toInt = (32 + v11.toInt) := mz_add2 (by decide) rfl (by have := R69.1 32 _ _ rfl; have := R69.1 49 _ _ rfl; have := R69.1 53 _ _ rfl; omega) (by have := R69.1 32 _ _ rfl; have := R69.1 49 _ _ rfl; have := R69.1 53 _ _ rfl; omega)
    have b84 : (20 * (32 + v11) : Int32).toInt = (20 * (32 + v11.toInt)) := mz_mul2 (by decide) b83 (by have := R69.1 32 _ _ rfl; have := R69.1 49 _ _ rfl; have := R69.1 53 _ _ rfl; omega) (by have := R69.1 32 _ _ rfl; have := R69.1 49 _ _ rfl; have := R69.1 53 _ _ rfl; omega)
    refine tr_iastR (k := 45) I67 R69 (I67.up h_o0) q79 t_a80 (by decide) (by decide) (fun lo hi h => by cases h; have := R69.1 32 _ _ rfl; have := R69.1 49 _ _ rfl; have := R69.1 53 _ _ rfl; exact ⟨by show (0 : Int) ≤ (20 * (32 + v11)).toInt; omega, by show (20 * (32 + v11)).toInt ≤ (899 : Int); omega⟩) (Or.inl (by decide)) d_TrustDeskModel_makes_84 (vp_in_iff.mpr (by have := R69.1 32 _ _ rfl; have := R69.1 49 _ _ rfl; have := R69.1 53 _ _ rfl; omega)) (fun M85 I86 K87 R88 E89 A90 V91 => ?_)
    have z92 := (V91 32).trans z73
    have z93 := (V91 49).trans z74
    have z94 := (V91 53).trans z75
    have K95 : rP M85 o0 := K76.same (sA_a A90 (by decide +kernel)) (sF_a V91)
    have K96 : rB M85 o0 12 := K77.same (sA_a A90 (by decide +kernel)) (sF_a V91)
    have K97 : rX M85 o0 := K78.same (sA_a A90 (by decide +kernel)) (sF_a V91)
    have K98 : rC M85 o0 44 := rC.end9 (f := 0) K51 (fun i => (A90 44 (by decide) rfl i).trans (E70 i)) (fun i => (E89 i).trans (by rw [A71 45 (by decide) rfl i])) 0 (by decide) (by have := R69.1 32 _ _ rfl; have := R69.1 49 _ _ rfl; have := R69.1 53 _ _ rfl; omega) (by rw [show (20 * (32 + v11)).toInt.toNat = 640 + 20 * v11.toNatClampNeg from by have := mz_nat9 (i := v11) (by have := R69.1 32 _ _ rfl; have := R69.1 49 _ _ rfl; have := R69.1 53 _ _ rfl; omega); have := R69.1 32 _ _ rfl; have := R69.1 49 _ _ rfl; have := R69.1 53 _ _ rfl; omega]; exact K51.2.2.2.1 _ (by have := mz_nat9 (i := v11) (by have := R69.1 32 _ _ rfl; have := R69.1 49 _ _ rfl; have := R69.1 53 _ _ rfl; omega); have := R69.1 32 _ _ rfl; have := R69.1 49 _ _ rfl; have := R69.1 53 _ _ rfl; omega) (by have := mz_nat9 (i := v11) (by have := R69.1 32 _ _ rfl; have := R69.1 49 _ _ rfl; have := R69.1 53 _ _ rfl; omega); have := R69.1 32 _ _ rfl; have := R69.1 49 _ _ rfl; have := R69.1 53 _ _ rfl; omega)) ((sA_a A71 (by decide)).trans (sA_a A90 (by decide))) (fun j hj => ((sF_a V91 : sF [27, 32, 49] _ _ _) j hj).trans ((sF_a V72 : sF [27, 32, 49] _ _ _) j hj))
    clear z73 z74 z75
    refine mv_aload_n d_TrustDeskModel_makes_85 rfl rfl ?_
    obtain ⟨a100, q99, t_a100⟩ := tm_atR I86 t47 (k := 46) rfl
    refine tr_getK q99 d_TrustDeskModel_makes_86 f_TrustDeskModel_107_13 ?_
    refine mv_iload d_TrustDeskModel_makes_89 rfl ?_
    refine mv_iconst (v := 0) d_TrustDeskModel_makes_91 (by decide) ?_
    have b101 : (80 * v7 : Int32).toInt = (80 * v7.toInt) := mz_mul2 (by decide) rfl (by have := R88.1 32 _ _ rfl; have := R88.1 49 _ _ rfl; have := R88.1 53 _ _ rfl; omega) (by have := R88.1 32 _ _ rfl; have := R88.1 49 _ _ rfl; have := R88.1 53 _ _ rfl; omega)
    have b102 : ((80 * v7) + v43 : Int32).toInt = ((80 * v7.toInt) + v43.toInt) := mz_add2 b101 rfl (by have := R88.1 32 _ _ rfl; have := R88.1 49 _ _ rfl; have := R88.1 53 _ _ rfl; omega) (by have := R88.1 32 _ _ rfl; have := R88.1 49 _ _ rfl; have := R88.1 53 _ _ rfl; omega)
    refine tr_iastR (k := 46) I86 R88 (I86.up h_o0) q99 t_a100 (by decide) (by decide) (fun lo hi h => by cases h) (Or.inl (by decide)) d_TrustDeskModel_makes_92 (vp_in_iff.mpr (by have := R88.1 32 _ _ rfl; have := R88.1 49 _ _ rfl; have := R88.1 53 _ _ rfl; omega)) (fun M103 I104 K105 R106 E107 A108 V109 => ?_)
    have z110 := (V109 32).trans z92
    have z111 := (V109 49).trans z93
    have z112 := (V109 53).trans z94
    have K113 : rP M103 o0 := K95.same (sA_a A108 (by decide +kernel)) (sF_a V109)
    have K114 : rB M103 o0 12 := K96.same (sA_a A108 (by decide +kernel)) (sF_a V109)
    have K115 : rX M103 o0 := K97.same (sA_a A108 (by decide +kernel)) (sF_a V109)
    have K116 : rC M103 o0 44 := K98.same (sA_a A108 (by decide +kernel)) (sF_a V109)
    clear z92 z93 z94
    refine mv_aload_n d_TrustDeskModel_makes_93 rfl rfl ?_
    obtain ⟨a118, q117, t_a118⟩ := tm_atR I104 t47 (k := 47) rfl
    refine tr_getK q117 d_TrustDeskModel_makes_94 f_TrustDeskModel_110_13 ?_
    refine mv_iload d_TrustDeskModel_makes_97 rfl ?_
    refine mv_iconst (v := 0) d_TrustDeskModel_makes_99 (by decide) ?_
    have b119 : (80 * v7 : Int32).toInt = (80 * v7.toInt) := mz_mul2 (by decide) rfl (by have := R106.1 32 _ _ rfl; have := R106.1 49 _ _ rfl; have := R106.1 53 _ _ rfl; omega) (by have := R106.1 32 _ _ rfl; have := R106.1 49 _ _ rfl; have := R106.1 53 _ _ rfl; omega)
    have b120 : ((80 * v7) + v43 : Int32).toInt = ((80 * v7.toInt) + v43.toInt) := mz_add2 b119 rfl (by have := R106.1 32 _ _ rfl; have := R106.1 49 _ _ rfl; have := R106.1 53 _ _ rfl; omega) (by have := R106.1 32 _ _ rfl; have := R106.1 49 _ _ rfl; have := R106.1 53 _ _ rfl; omega)
    refine tr_iastR (k := 47) I104 R106 (I104.up h_o0) q117 t_a118 (by decide) (by decide) (fun lo hi h => by cases h) (Or.inl (by decide)) d_TrustDeskModel_makes_100 (vp_in_iff.mpr (by have := R106.1 32 _ _ rfl; have := R106.1 49 _ _ rfl; have := R106.1 53 _ _ rfl; omega)) (fun M121 I122 K123 R124 E125 A126 V127 => ?_)
    have z128 := (V127 32).trans z110
    have z129 := (V127 49).trans z111
    have z130 := (V127 53).trans z112
    have K131 : rP M121 o0 := K113.same (sA_a A126 (by decide +kernel)) (sF_a V127)
    have K132 : rB M121 o0 12 := K114.same (sA_a A126 (by decide +kernel)) (sF_a V127)
    have K133 : rX M121 o0 := K115.same (sA_a A126 (by decide +kernel)) (sF_a V127)
    have K134 : rC M121 o0 44 := K116.same (sA_a A126 (by decide +kernel)) (sF_a V127)
    clear z110 z111 z112
    refine mv_aload_n d_TrustDeskModel_makes_101 rfl rfl ?_
    obtain ⟨a136, q135, t_a136⟩ := tm_atR I122 t47 (k := 48) rfl
    refine tr_getK q135 d_TrustDeskModel_makes_102 f_TrustDeskModel_113_13 ?_
    refine mv_iload d_TrustDeskModel_makes_105 rfl ?_
    refine mv_iconst (v := (-1)) d_TrustDeskModel_makes_107 (by decide) ?_
    have b137 : (80 * v7 : Int32).toInt = (80 * v7.toInt) := mz_mul2 (by decide) rfl (by have := R124.1 32 _ _ rfl; have := R124.1 49 _ _ rfl; have := R124.1 53 _ _ rfl; omega) (by have := R124.1 32 _ _ rfl; have := R124.1 49 _ _ rfl; have := R124.1 53 _ _ rfl; omega)
    have b138 : ((80 * v7) + v43 : Int32).toInt = ((80 * v7.toInt) + v43.toInt) := mz_add2 b137 rfl (by have := R124.1 32 _ _ rfl; have := R124.1 49 _ _ rfl; have := R124.1 53 _ _ rfl; omega) (by have := R124.1 32 _ _ rfl; have := R124.1 49 _ _ rfl; have := R124.1 53 _ _ rfl; omega)
    refine tr_iastR (k := 48) I122 R124 (I122.up h_o0) q135 t_a136 (by decide) (by decide) (fun lo hi h => by cases h) (Or.inl (by decide)) d_TrustDeskModel_makes_108 (vp_in_iff.mpr (by have := R124.1 32 _ _ rfl; have := R124.1 49 _ _ rfl; have := R124.1 53 _ _ rfl; omega)) (fun M139 I140 K141 R142 E143 A144 V145 => ?_)
    have z146 := (V145 32).trans z128
    have z147 := (V145 49).trans z129
    have z148 := (V145 53).trans z130
    have K149 : rP M139 o0 := K131.same (sA_a A144 (by decide +kernel)) (sF_a V145)
    have K150 : rB M139 o0 12 := K132.same (sA_a A144 (by decide +kernel)) (sF_a V145)
    have K151 : rX M139 o0 := K133.same (sA_a A144 (by decide +kernel)) (sF_a V145)
    have K152 : rC M139 o0 44 := K134.same (sA_a A144 (by decide +kernel)) (sF_a V145)
    clear z128 z129 z130
    refine mv_aload_n d_TrustDeskModel_makes_109 rfl rfl ?_
    obtain ⟨a154, q153, t_a154⟩ := tm_atR I140 t47 (k := 36) rfl
    refine tr_getK q153 d_TrustDeskModel_makes_110 f_TrustDeskModel_76_13 ?_
    refine mv_iload_n d_TrustDeskModel_makes_113 rfl rfl ?_
    refine mv_dup2_11 d_TrustDeskModel_makes_114 rfl rfl ?_
    refine tr_ialdR (o := o0) (k := 36) I140 q153 t_a154 (by decide) d_TrustDeskModel_makes_115 (vp_in_iff.mpr (by have := R142.1 32 _ _ rfl; have := R142.1 49 _ _ rfl; have := R142.1 53 _ _ rfl; omega)) (fun v155 e156 => ?_)
    refine mv_aload_n d_TrustDeskModel_makes_116 rfl rfl ?_
    obtain ⟨a158, q157, t_a158⟩ := tm_atR I140 t47 (k := 50) rfl
    refine tr_getK q157 d_TrustDeskModel_makes_117 f_TrustDeskModel_116_13 ?_
    refine mv_iload_n d_TrustDeskModel_makes_120 rfl rfl ?_
    refine tr_ialdR (o := o0) (k := 50) I140 q157 t_a158 (by decide) d_TrustDeskModel_makes_121 (vp_in_iff.mpr (by have := R142.1 32 _ _ rfl; have := R142.1 49 _ _ rfl; have := R142.1 53 _ _ rfl; omega)) (fun v159 e160 => ?_)
    refine mv_iand d_TrustDeskModel_makes_122 ?_
    refine tr_iastR (k := 36) I140 R142 (I140.up h_o0) q153 t_a154 (by decide) (by decide) (fun lo hi h => by cases h) (Or.inl (by decide)) d_TrustDeskModel_makes_123 (vp_in_iff.mpr (by have := R142.1 32 _ _ rfl; have := R142.1 49 _ _ rfl; have := R142.1 53 _ _ rfl; omega)) (fun M161 I162 K163 R164 E165 A166 V167 => ?_)
    have z168 := (V167 32).trans z146
    have z169 := (V167 49).trans z147
    have z170 := (V167 53).trans z148
    have K171 : rP M161 o0 := K149.same (sA_a A166 (by decide +kernel)) (sF_a V167)
    have K172 : rB M161 o0 12 := K150.same (sA_a A166 (by decide +kernel)) (sF_a V167)
    have K173 : rX M161 o0 := K151.same (sA_a A166 (by decide +kernel)) (sF_a V167)
    have K174 : rC M161 o0 44 := K152.same (sA_a A166 (by decide +kernel)) (sF_a V167)
    clear z146 z147 z148
    refine mv_goto (tgt := 195) d_TrustDeskModel_makes_124 (by decide) ?_
    exact mv_vret d_TrustDeskModel_makes_195 rfl ⟨_, I162, rfl, R164, K174, K171, K172⟩
  · refine mv_tableIn (tgt := 127) (off := 107) d_TrustDeskModel_makes_20 (by omega) (by omega) (by rw [b17]; rfl) (by decide) ?_
    refine mv_aload_n d_TrustDeskModel_makes_127 rfl rfl ?_
    refine mv_iload_n d_TrustDeskModel_makes_128 rfl rfl ?_
    refine mv_iload_n d_TrustDeskModel_makes_129 rfl rfl ?_
    obtain ⟨_, b181, -⟩ := I0.1 _ _ h_o0
    refine mv_callV (kc' := 0) (ks' := 0) (As := [.int v7, .int v11]) (st9 := [.int v11, .int v7, .ref o0]) d_TrustDeskModel_makes_130 lV_TrustDeskModel_548 b181 rfl (tc_TrustDeskModel_joins_x (d := d) (x9 := x9) (o0 := o0) (x1 := v7) (x2 := v11) h_o0 yR K1 K2 K3 ⟨(by have := yR.1 32 _ _ rfl; have := yR.1 49 _ _ rfl; have := yR.1 53 _ _ rfl; omega), (by have := yR.1 32 _ _ rfl; have := yR.1 49 _ _ rfl; have := yR.1 53 _ _ rfl; omega), (by have := (cb5 (by omega)).1; omega), (by have := (cb5 (by omega)).2.1; omega), (by have := (cb5 (by omega)).2.2.2; omega), cb3, (cb5 (by omega)).2.2.1⟩ I0.start) rfl (Nat.le_of_ble_eq_true rfl) (Nat.le_of_ble_eq_true rfl) (Nat.le_of_ble_eq_true rfl) (hst := rfl) (fun b175r M176 n177 b175 => ?_)
    obtain ⟨T178, J179, rfl, R182, f183, f184, f185⟩ := b175
    have I180 := I0.call J179 (tm_sub (by decide)) (Or.inl rfl)
    have t186 := J179.up h_o0
    have z187 := (rv_c I0 J179 (I0.up h_o0) (k := 32) rfl)
    have z188 := (rv_c I0 J179 (I0.up h_o0) (k := 49) rfl)
    have z189 := (rv_c I0 J179 (I0.up h_o0) (k := 53) rfl)
    have K190 : rC M176 o0 44 := f183
    have K191 : rP M176 o0 := f184
    have K192 : rB M176 o0 12 := f185
    have K193 : rX M176 o0 := K4.same (sA_c I0 J179 (I0.up h_o0) (by decide +kernel)) (sF_c I0 J179 (I0.up h_o0) (by decide +kernel))
    have q194 := J179.keep h_o0 (by decide) q5
    have t195 := J179.up t_a6
    have q196 := J179.keep h_o0 (by decide) q9
    have t197 := J179.up t_a10
    have q198 := J179.keep h_o0 (by decide) q13
    have t199 := J179.up t_a14
    refine mv_goto (tgt := 195) d_TrustDeskModel_makes_133 (by decide) ?_
    exact mv_vret d_TrustDeskModel_makes_195 rfl ⟨_, I180, rfl, R182, K190, K191, K192⟩
  · refine mv_tableIn (tgt := 136) (off := 116) d_TrustDeskModel_makes_20 (by omega) (by omega) (by rw [b17]; rfl) (by decide) ?_
    refine mv_aload_n d_TrustDeskModel_makes_136 rfl rfl ?_
    obtain ⟨a201, q200, t_a201⟩ := tm_atR I0 h_o0 (k := 33) rfl
    refine tr_getK q200 d_TrustDeskModel_makes_137 f_TrustDeskModel_66_13 ?_
    refine mv_iload_n d_TrustDeskModel_makes_140 rfl rfl ?_
    refine mv_dup2_11 d_TrustDeskModel_makes_141 rfl rfl ?_
    refine tr_ialdR (o := o0) (k := 33) I0 q200 t_a201 (by decide) d_TrustDeskModel_makes_142 (vp_in_iff.mpr (by have := yR.1 32 _ _ rfl; have := yR.1 49 _ _ rfl; have := yR.1 53 _ _ rfl; omega)) (fun v202 e203 => ?_)
    have := yR.a (k := 33) rfl (v7 : Int32).toNatClampNeg
    refine mv_iload_n d_TrustDeskModel_makes_143 rfl rfl ?_
    refine mv_isub d_TrustDeskModel_makes_144 ?_
    have b204 : (v202 - v11 : Int32).toInt = (v202.toInt - v11.toInt) := mz_sub2 rfl rfl (by have := yR.1 32 _ _ rfl; have := yR.1 49 _ _ rfl; have := yR.1 53 _ _ rfl; omega) (by have := yR.1 32 _ _ rfl; have := yR.1 49 _ _ rfl; have := yR.1 53 _ _ rfl; omega)
    refine tr_iastR (k := 33) I0 yR (I0.up h_o0) q200 t_a201 (by decide) (by decide) (fun lo hi h => by cases h; have := yR.1 32 _ _ rfl; have := yR.1 49 _ _ rfl; have := yR.1 53 _ _ rfl; exact ⟨by show (0 : Int) ≤ (v202 - v11).toInt; omega, by show (v202 - v11).toInt ≤ (999 : Int); omega⟩) (Or.inl (by decide)) d_TrustDeskModel_makes_145 (vp_in_iff.mpr (by have := yR.1 32 _ _ rfl; have := yR.1 49 _ _ rfl; have := yR.1 53 _ _ rfl; omega)) (fun M205 I206 K207 R208 E209 A210 V211 => ?_)
    have z212 := (V211 32)
    have z213 := (V211 49)
    have z214 := (V211 53)
    have K215 : rC M205 o0 44 := K1.same (sA_a A210 (by decide +kernel)) (sF_a V211)
    have K216 : rP M205 o0 := K2.same (sA_a A210 (by decide +kernel)) (sF_a V211)
    have K217 : rB M205 o0 12 := K3.same (sA_a A210 (by decide +kernel)) (sF_a V211)
    have K218 : rX M205 o0 := K4.same (sA_a A210 (by decide +kernel)) (sF_a V211)
    refine mv_aload_n d_TrustDeskModel_makes_146 rfl rfl ?_
    refine mv_iload_n d_TrustDeskModel_makes_147 rfl rfl ?_
    refine mv_iload_n d_TrustDeskModel_makes_148 rfl rfl ?_
    refine mv_i2l (v := v11.toInt64) d_TrustDeskModel_makes_149 rfl ?_
    refine mv_aload_n d_TrustDeskModel_makes_150 rfl rfl ?_
    refine mv_bipush (v := 6) d_TrustDeskModel_makes_151 (by decide) ?_
    refine mv_aload_n d_TrustDeskModel_makes_153 rfl rfl ?_
    obtain ⟨_, b219, -⟩ := I206.1 _ _ h_o0
    refine mv_callV (kc1 := 0) (ks1 := 0) (kc' := 0) (ks' := 0) (As := []) (st9 := [.ref o0, .int 6, .ref o0, .long v11.toInt64, .int v7, .ref o0]) d_TrustDeskModel_makes_154 lV_TrustDeskModel_518 b219 rfl (mj_enter (by decide) (Nat.le_of_ble_eq_true rfl) ?_) rfl (Nat.le_of_ble_eq_true rfl) (Nat.le_of_ble_eq_true rfl) (Nat.le_of_ble_eq_true rfl) (hst := rfl) (fun _ _ _ h => h)
    refine mv_aload_n d_TrustDeskModel_year_0 rfl rfl ?_
    obtain ⟨v221, q220⟩ := tm_atI I206 h_o0 (k := 1) rfl
    refine tr_getK q220 d_TrustDeskModel_year_1 f_TrustDeskModel_164_13 ?_
    have := R208.f (k := 1) q220 rfl
    refine mv_sipush (v := 360) d_TrustDeskModel_year_4 (by decide) ?_
    have : (v221 / 360 : Int32).toInt = v221.toInt / 360 := mz_div (by decide) (by decide) (by have := R208.1 32 _ _ rfl; have := R208.1 49 _ _ rfl; have := R208.1 53 _ _ rfl; omega)
    refine mv_idiv d_TrustDeskModel_year_7 (by decide) ?_
    refine mv_iret d_TrustDeskModel_year_8 rfl (by first | rfl | decide) ?_
    refine mv_aload_n d_TrustDeskModel_makes_157 rfl rfl ?_
    refine tr_getK (k := 1) q220 d_TrustDeskModel_makes_158 f_TrustDeskModel_164_13 ?_
    obtain ⟨_, b228, -⟩ := I206.1 _ _ h_o0
    have : (6 : Int32).toInt = 6 := by decide
    refine mv_callV (kc' := 0) (ks' := 0) (As := [.int 6, .int (v221 / 360), .int v221]) (st9 := [.int v221, .int (v221 / 360), .int 6, .ref o0, .long v11.toInt64, .int v7, .ref o0]) d_TrustDeskModel_makes_161 lV_TrustDeskModel_185 b228 rfl (tc_TrustDeskModel_factAt_x (d := (d + 3)) (x9 := x9) (o0 := o0) (x1 := 6) (x2 := (v221 / 360)) (x3 := v221) h_o0 R208 I206.start) rfl (Nat.le_of_ble_eq_true rfl) (Nat.le_of_ble_eq_true rfl) (Nat.le_of_ble_eq_true rfl) (hst := rfl) (fun b222r M223 n224 b222 => ?_)
    obtain ⟨T225, J226, v229, rfl, R230, f231⟩ := b222
    have I227 := I206.call J226 (tm_sub (by decide)) (Or.inl rfl)
    have t232 := J226.up h_o0
    have z233 := (rv_c I206 J226 (I206.up h_o0) (k := 32) rfl).trans z212
    have z234 := (rv_c I206 J226 (I206.up h_o0) (k := 49) rfl).trans z213
    have z235 := (rv_c I206 J226 (I206.up h_o0) (k := 53) rfl).trans z214
    have K236 : rC M223 o0 44 := K215.same (sA_c I206 J226 (I206.up h_o0) (by decide +kernel)) (sF_c I206 J226 (I206.up h_o0) (by decide +kernel))
    have K237 : rP M223 o0 := K216.same (sA_c I206 J226 (I206.up h_o0) (by decide +kernel)) (sF_c I206 J226 (I206.up h_o0) (by decide +kernel))
    have K238 : rB M223 o0 12 := K217.same (sA_c I206 J226 (I206.up h_o0) (by decide +kernel)) (sF_c I206 J226 (I206.up h_o0) (by decide +kernel))
    have K239 : rX M223 o0 := K218.same (sA_c I206 J226 (I206.up h_o0) (by decide +kernel)) (sF_c I206 J226 (I206.up h_o0) (by decide +kernel))
    clear z212 z213 z214
    have q240 := J226.keep h_o0 (by decide) (K207 _ 13 55 _ q5)
    have t241 := J226.up t_a6
    have q242 := J226.keep h_o0 (by decide) (K207 _ 13 56 _ q9)
    have t243 := J226.up t_a10
    have q244 := J226.keep h_o0 (by decide) (K207 _ 13 54 _ q13)
    have t245 := J226.up t_a14
    have q246 := J226.keep h_o0 (by decide) (K207 _ 13 33 _ q200)
    have t247 := J226.up t_a201
    have q248 := J226.keep h_o0 (by decide) q220
    refine mv_i2l (v := v229.toInt64) d_TrustDeskModel_makes_164 rfl ?_
    refine mv_lmul d_TrustDeskModel_makes_165 ?_
    refine mv_aload_n d_TrustDeskModel_makes_166 rfl rfl ?_
    refine mv_aload_n d_TrustDeskModel_makes_167 rfl rfl ?_
    refine tr_getK (k := 1) q248 d_TrustDeskModel_makes_168 f_TrustDeskModel_164_13 ?_
    refine mv_iconst (v := 5) d_TrustDeskModel_makes_171 (by decide) ?_
    obtain ⟨_, b255, -⟩ := I227.1 _ _ t232
    have : (5 : Int32).toInt = 5 := by decide
    refine mv_callV (kc' := 0) (ks' := 0) (As := [.int v221, .int 5]) (st9 := [.int 5, .int v221, .ref o0, .long (v11.toInt64 * v229.toInt64), .int v7, .ref o0]) d_TrustDeskModel_makes_172 lV_TrustDeskModel_396 b255 rfl (tc_TrustDeskModel_toldOn_x (d := (d + 2)) (x9 := x9) (o0 := o0) (x1 := v221) (x2 := 5) t232 R230 K236.2.2.1 I227.start) rfl (Nat.le_of_ble_eq_true rfl) (Nat.le_of_ble_eq_true rfl) (Nat.le_of_ble_eq_true rfl) (hst := rfl) (fun b249r M250 n251 b249 => ?_)
    obtain ⟨T252, J253, v256, rfl, R257, f258⟩ := b249
    have I254 := I227.call J253 (tm_sub (by decide)) (Or.inl rfl)
    have t259 := J253.up t232
    have z260 := (rv_c I227 J253 (I227.up h_o0) (k := 32) rfl).trans z233
    have z261 := (rv_c I227 J253 (I227.up h_o0) (k := 49) rfl).trans z234
    have z262 := (rv_c I227 J253 (I227.up h_o0) (k := 53) rfl).trans z235
    have K263 : rC M250 o0 44 := K236.same (sA_c I227 J253 (I227.up h_o0) (by decide +kernel)) (sF_c I227 J253 (I227.up h_o0) (by decide +kernel))
    have K264 : rP M250 o0 := K237.same (sA_c I227 J253 (I227.up h_o0) (by decide +kernel)) (sF_c I227 J253 (I227.up h_o0) (by decide +kernel))
    have K265 : rB M250 o0 12 := K238.same (sA_c I227 J253 (I227.up h_o0) (by decide +kernel)) (sF_c I227 J253 (I227.up h_o0) (by decide +kernel))
    have K266 : rX M250 o0 := K239.same (sA_c I227 J253 (I227.up h_o0) (by decide +kernel)) (sF_c I227 J253 (I227.up h_o0) (by decide +kernel))
    clear z233 z234 z235
    have q267 := J253.keep t232 (by decide) q240
    have t268 := J253.up t241
    have q269 := J253.keep t232 (by decide) q242
    have t270 := J253.up t243
    have q271 := J253.keep t232 (by decide) q244
    have t272 := J253.up t245
    have q273 := J253.keep t232 (by decide) q246
    have t274 := J253.up t247
    have q275 := J253.keep t232 (by decide) q248
    refine mv_i2l (v := v256.toInt64) d_TrustDeskModel_makes_175 rfl ?_
    refine mv_lmul d_TrustDeskModel_makes_176 ?_
    obtain ⟨_, b282, -⟩ := I254.1 _ _ t259
    have : (v11.toInt64 : Int64).toInt = v11.toInt := (mz_wide _)
    have : (v229.toInt64 : Int64).toInt = v229.toInt := (mz_wide _)
    have := mz_mulLb (x := v11.toInt64) (y := v229.toInt64) (A := 999) (B := 36000) (by have := R257.1 32 _ _ rfl; have := R257.1 49 _ _ rfl; have := R257.1 53 _ _ rfl; omega) (by have := R257.1 32 _ _ rfl; have := R257.1 49 _ _ rfl; have := R257.1 53 _ _ rfl; omega) (by have := R257.1 32 _ _ rfl; have := R257.1 49 _ _ rfl; have := R257.1 53 _ _ rfl; omega) (by have := R257.1 32 _ _ rfl; have := R257.1 49 _ _ rfl; have := R257.1 53 _ _ rfl; omega) (by omega)
    have : (v256.toInt64 : Int64).toInt = v256.toInt := (mz_wide _)
    have := mz_mulLb (x := (v11.toInt64 * v229.toInt64)) (y := v256.toInt64) (A := 35964000) (B := 720) (by have := R257.1 32 _ _ rfl; have := R257.1 49 _ _ rfl; have := R257.1 53 _ _ rfl; omega) (by have := R257.1 32 _ _ rfl; have := R257.1 49 _ _ rfl; have := R257.1 53 _ _ rfl; omega) (by have := R257.1 32 _ _ rfl; have := R257.1 49 _ _ rfl; have := R257.1 53 _ _ rfl; omega) (by have := R257.1 32 _ _ rfl; have := R257.1 49 _ _ rfl; have := R257.1 53 _ _ rfl; omega) (by omega)
    refine mv_callV (kc' := 0) (ks' := 0) (As := [.int v7, .long ((v11.toInt64 * v229.toInt64) * v256.toInt64)]) (st9 := [.long ((v11.toInt64 * v229.toInt64) * v256.toInt64), .int v7, .ref o0]) d_TrustDeskModel_makes_177 lV_TrustDeskModel_479 b282 rfl (tc_TrustDeskModel_gets_x (d := (d + 3)) (x9 := x9) (o0 := o0) (x1 := v7) (x2 := ((v11.toInt64 * v229.toInt64) * v256.toInt64)) t259 (by have := R257.1 32 _ _ rfl; have := R257.1 49 _ _ rfl; have := R257.1 53 _ _ rfl; omega) R257 (by have := R257.1 32 _ _ rfl; have := R257.1 49 _ _ rfl; have := R257.1 53 _ _ rfl; omega) I254.start) rfl (Nat.le_of_ble_eq_true rfl) (Nat.le_of_ble_eq_true rfl) (Nat.le_of_ble_eq_true rfl) (hst := rfl) (fun b276r M277 n278 b276 => ?_)
    obtain ⟨T279, J280, rfl, R285⟩ := b276
    have I281 := I254.call J280 (tm_sub (by decide)) (Or.inl rfl)
    have t286 := J280.up t259
    have z287 := (rv_c I254 J280 (I254.up h_o0) (k := 32) rfl).trans z260
    have z288 := (rv_c I254 J280 (I254.up h_o0) (k := 49) rfl).trans z261
    have z289 := (rv_c I254 J280 (I254.up h_o0) (k := 53) rfl).trans z262
    have K290 : rC M277 o0 44 := K263.same (sA_c I254 J280 (I254.up h_o0) (by decide +kernel)) (sF_c I254 J280 (I254.up h_o0) (by decide +kernel))
    have K291 : rP M277 o0 := K264.same (sA_c I254 J280 (I254.up h_o0) (by decide +kernel)) (sF_c I254 J280 (I254.up h_o0) (by decide +kernel))
    have K292 : rB M277 o0 12 := K265.same (sA_c I254 J280 (I254.up h_o0) (by decide +kernel)) (sF_c I254 J280 (I254.up h_o0) (by decide +kernel))
    have K293 : rX M277 o0 := K266.same (sA_c I254 J280 (I254.up h_o0) (by decide +kernel)) (sF_c I254 J280 (I254.up h_o0) (by decide +kernel))
    clear z260 z261 z262
    have q294 := J280.keep t259 (by decide) q267
    have t295 := J280.up t268
    have q296 := J280.keep t259 (by decide) q269
    have t297 := J280.up t270
    have q298 := J280.keep t259 (by decide) q271
    have t299 := J280.up t272
    have q300 := J280.keep t259 (by decide) q273
    have t301 := J280.up t274
    have q302 := J280.keep t259 (by decide) q275
    refine mv_goto (tgt := 195) d_TrustDeskModel_makes_180 (by decide) ?_
    exact mv_vret d_TrustDeskModel_makes_195 rfl ⟨_, I281, rfl, R285, K290, K291, K292⟩
abbrev kY_TrustDeskModel_settle : mj_Y := (⟨"TrustDeskModel", "settle", "(I)I"⟩, prog_14_method_87_code, 3, (Option.some Jvm.ClassFile.FieldType.int))
theorem d_TrustDeskModel_settle_0 : decode kY_TrustDeskModel_settle.2.1 0 = .ok (.aload_n 0, 1) := by decide +kernel
theorem d_TrustDeskModel_settle_1 : decode kY_TrustDeskModel_settle.2.1 1 = .ok (.iconst 0, 1) := by decide +kernel
theorem d_TrustDeskModel_settle_2 : decode kY_TrustDeskModel_settle.2.1 2 = .ok (.putfield 1, 3) := by decide +kernel
theorem d_TrustDeskModel_settle_5 : decode kY_TrustDeskModel_settle.2.1 5 = .ok (.aload_n 0, 1) := by decide +kernel
theorem d_TrustDeskModel_settle_6 : decode kY_TrustDeskModel_settle.2.1 6 = .ok (.iload_n 1, 1) := by decide +kernel
theorem d_TrustDeskModel_settle_7 : decode kY_TrustDeskModel_settle.2.1 7 = .ok (.invokevirtual 506, 3) := by decide +kernel
theorem d_TrustDeskModel_settle_10 : decode kY_TrustDeskModel_settle.2.1 10 = .ok (.ifCond .eq 24, 3) := by decide +kernel
theorem d_TrustDeskModel_settle_34 : decode kY_TrustDeskModel_settle.2.1 34 = .ok (.iconst (-1), 1) := by decide +kernel
theorem d_TrustDeskModel_settle_35 : decode kY_TrustDeskModel_settle.2.1 35 = .ok (.ireturn, 1) := by decide +kernel
theorem d_TrustDeskModel_settle_13 : decode kY_TrustDeskModel_settle.2.1 13 = .ok (.aload_n 0, 1) := by decide +kernel
theorem d_TrustDeskModel_settle_14 : decode kY_TrustDeskModel_settle.2.1 14 = .ok (.getfield 137, 3) := by decide +kernel
theorem d_TrustDeskModel_settle_17 : decode kY_TrustDeskModel_settle.2.1 17 = .ok (.iload_n 1, 1) := by decide +kernel
theorem d_TrustDeskModel_settle_18 : decode kY_TrustDeskModel_settle.2.1 18 = .ok (.iaload, 1) := by decide +kernel
theorem d_TrustDeskModel_settle_19 : decode kY_TrustDeskModel_settle.2.1 19 = .ok (.ifCond .ne 15, 3) := by decide +kernel
theorem d_TrustDeskModel_settle_22 : decode kY_TrustDeskModel_settle.2.1 22 = .ok (.aload_n 0, 1) := by decide +kernel
theorem d_TrustDeskModel_settle_23 : decode kY_TrustDeskModel_settle.2.1 23 = .ok (.getfield 164, 3) := by decide +kernel
theorem d_TrustDeskModel_settle_26 : decode kY_TrustDeskModel_settle.2.1 26 = .ok (.aload_n 0, 1) := by decide +kernel
theorem d_TrustDeskModel_settle_27 : decode kY_TrustDeskModel_settle.2.1 27 = .ok (.iload_n 1, 1) := by decide +kernel
theorem d_TrustDeskModel_settle_28 : decode kY_TrustDeskModel_settle.2.1 28 = .ok (.invokevirtual 509, 3) := by decide +kernel
theorem d_TrustDeskModel_settle_31 : decode kY_TrustDeskModel_settle.2.1 31 = .ok (.if_icmp .gt 5, 3) := by decide +kernel
theorem d_TrustDeskModel_settle_36 : decode kY_TrustDeskModel_settle.2.1 36 = .ok (.aload_n 0, 1) := by decide +kernel
theorem d_TrustDeskModel_settle_37 : decode kY_TrustDeskModel_settle.2.1 37 = .ok (.iload_n 1, 1) := by decide +kernel
theorem d_TrustDeskModel_settle_38 : decode kY_TrustDeskModel_settle.2.1 38 = .ok (.invokevirtual 551, 3) := by decide +kernel
theorem lV_TrustDeskModel_551 : mj_lV "TrustDeskModel" 551 kY_TrustDeskModel_failsBy 1 := ⟨⟨(mj_in1 (List.mem_of_getElem? (i := 1949) (by decide +kernel)) rfl), (mj_in1 (List.mem_of_getElem? (i := 10) (by decide +kernel)) rfl), (mj_in1 (List.mem_of_getElem? (i := 1952) (by decide +kernel)) rfl), by decide, rfl, by decide⟩, (mj_in1 (List.mem_of_getElem? (i := 1951) (by decide +kernel)) rfl), (mj_in (List.mem_append_left _ (List.mem_of_getElem? (i := 127) (by decide +kernel))) rfl)⟩
theorem d_TrustDeskModel_settle_41 : decode kY_TrustDeskModel_settle.2.1 41 = .ok (.istore_n 2, 1) := by decide +kernel
theorem d_TrustDeskModel_settle_42 : decode kY_TrustDeskModel_settle.2.1 42 = .ok (.aload_n 0, 1) := by decide +kernel
theorem d_TrustDeskModel_settle_43 : decode kY_TrustDeskModel_settle.2.1 43 = .ok (.getfield 140, 3) := by decide +kernel
theorem d_TrustDeskModel_settle_46 : decode kY_TrustDeskModel_settle.2.1 46 = .ok (.iload_n 1, 1) := by decide +kernel
theorem d_TrustDeskModel_settle_47 : decode kY_TrustDeskModel_settle.2.1 47 = .ok (.iload_n 2, 1) := by decide +kernel
theorem d_TrustDeskModel_settle_48 : decode kY_TrustDeskModel_settle.2.1 48 = .ok (.iastore, 1) := by decide +kernel
theorem d_TrustDeskModel_settle_49 : decode kY_TrustDeskModel_settle.2.1 49 = .ok (.aload_n 0, 1) := by decide +kernel
theorem d_TrustDeskModel_settle_50 : decode kY_TrustDeskModel_settle.2.1 50 = .ok (.getfield 137, 3) := by decide +kernel
theorem d_TrustDeskModel_settle_53 : decode kY_TrustDeskModel_settle.2.1 53 = .ok (.iload_n 1, 1) := by decide +kernel
theorem d_TrustDeskModel_settle_54 : decode kY_TrustDeskModel_settle.2.1 54 = .ok (.iload_n 2, 1) := by decide +kernel
theorem d_TrustDeskModel_settle_55 : decode kY_TrustDeskModel_settle.2.1 55 = .ok (.ifCond .ne 7, 3) := by decide +kernel
theorem d_TrustDeskModel_settle_62 : decode kY_TrustDeskModel_settle.2.1 62 = .ok (.iconst 2, 1) := by decide +kernel
theorem d_TrustDeskModel_settle_63 : decode kY_TrustDeskModel_settle.2.1 63 = .ok (.iastore, 1) := by decide +kernel
theorem d_TrustDeskModel_settle_64 : decode kY_TrustDeskModel_settle.2.1 64 = .ok (.iload_n 2, 1) := by decide +kernel
theorem d_TrustDeskModel_settle_65 : decode kY_TrustDeskModel_settle.2.1 65 = .ok (.ifCond .ne 8, 3) := by decide +kernel
theorem d_TrustDeskModel_settle_73 : decode kY_TrustDeskModel_settle.2.1 73 = .ok (.iload_n 2, 1) := by decide +kernel
theorem d_TrustDeskModel_settle_74 : decode kY_TrustDeskModel_settle.2.1 74 = .ok (.ireturn, 1) := by decide +kernel
theorem d_TrustDeskModel_settle_58 : decode kY_TrustDeskModel_settle.2.1 58 = .ok (.iconst 1, 1) := by decide +kernel
theorem d_TrustDeskModel_settle_59 : decode kY_TrustDeskModel_settle.2.1 59 = .ok (.goto 4, 3) := by decide +kernel
theorem d_TrustDeskModel_settle_68 : decode kY_TrustDeskModel_settle.2.1 68 = .ok (.aload_n 0, 1) := by decide +kernel
theorem d_TrustDeskModel_settle_69 : decode kY_TrustDeskModel_settle.2.1 69 = .ok (.iload_n 1, 1) := by decide +kernel
theorem d_TrustDeskModel_settle_70 : decode kY_TrustDeskModel_settle.2.1 70 = .ok (.invokevirtual 554, 3) := by decide +kernel
theorem lV_TrustDeskModel_554 : mj_lV "TrustDeskModel" 554 kY_TrustDeskModel_makes 1 := ⟨⟨(mj_in1 (List.mem_of_getElem? (i := 1977) (by decide +kernel)) rfl), (mj_in1 (List.mem_of_getElem? (i := 10) (by decide +kernel)) rfl), (mj_in1 (List.mem_of_getElem? (i := 1980) (by decide +kernel)) rfl), by decide, rfl, by decide⟩, (mj_in1 (List.mem_of_getElem? (i := 1979) (by decide +kernel)) rfl), (mj_in (List.mem_append_left _ (List.mem_of_getElem? (i := 134) (by decide +kernel))) rfl)⟩
def w_TrustDeskModel_settle_x : List Nat := [1300, 1331, 20029, 20030, 20033, 20034, 20035, 20036, 20037, 20040, 20041, 20043, 20044, 20045, 20046, 20047, 20048, 20059, 20060]
set_option maxHeartbeats 100000000 in theorem tc_TrustDeskModel_settle_x {g : mj_G} {l : Launch} {d : Nat} {T0 : tm_H} {M0 : mj_M} {n0 x9 : Nat} {o0 : Nat} {x1 : Int32} (h_o0 : T0 o0 = some (0, 13, 0)) (yR : rI M0 o0) (yC : rC M0 o0 44) (yP : rP M0 o0) (yB : rB M0 o0 12) (yX : rX M0 o0) (I0 : tm_I tm_FT (tm_in w_TrustDeskModel_settle_x) x9 T0 M0 n0 T0 M0 n0) : mj_Met g l kY_TrustDeskModel_settle (d + 5) [.ref o0, .int x1] M0 n0 0 0 (tm_Q tm_FT (tm_in w_TrustDeskModel_settle_x) x9 T0 M0 n0 (fun r _ M => ∃ v : Int32, r = some (.int v) ∧ rI M o0 ∧ (rC M o0 44) ∧ (rP M o0) ∧ (rB M o0 12) ∧ (rX M o0))) := by
  refine mj_enter (by decide) (Nat.le_of_ble_eq_true rfl) ?_
  have K1 : rC M0 o0 44 := yC
  have K2 : rP M0 o0 := yP
  have K3 : rB M0 o0 12 := yB
  have K4 : rX M0 o0 := yX
  refine mv_aload_n d_TrustDeskModel_settle_0 rfl rfl ?_
  refine mv_iconst (v := 0) d_TrustDeskModel_settle_1 (by decide) ?_
  refine tr_putR (k := 0) I0 yR h_o0 rfl ⟨_, rfl⟩ (fun _ h => by cases h) rfl (fun lo hi h => by cases h) (Or.inl (by decide)) d_TrustDeskModel_settle_2 p_TrustDeskModel_1_13 rfl rfl (fun M5 I6 q7 K8 R9 A10 V11 => ?_)
  have z12 := (V11 53 (by decide))
  have K13 : rC M5 o0 44 := K1.same (sA_f A10 (by decide)) (sF_f V11 (by decide))
  have K14 : rP M5 o0 := K2.same (sA_f A10 (by decide)) (sF_f V11 (by decide))
  have K15 : rB M5 o0 12 := K3.same (sA_f A10 (by decide)) (sF_f V11 (by decide))
  have K16 : rX M5 o0 := K4.same (sA_f A10 (by decide)) (sF_f V11 (by decide))
  refine mv_aload_n d_TrustDeskModel_settle_5 rfl rfl ?_
  refine mv_iload_n d_TrustDeskModel_settle_6 rfl rfl ?_
  obtain ⟨_, b17, -⟩ := I6.1 _ _ h_o0
  refine mv_callV (kc1 := 0) (ks1 := 0) (kc' := 0) (ks' := 0) (As := [.int x1]) (st9 := [.int x1, .ref o0]) d_TrustDeskModel_settle_7 lV_TrustDeskModel_506 b17 rfl (mj_enter (by decide) (Nat.le_of_ble_eq_true rfl) ?_) rfl (Nat.le_of_ble_eq_true rfl) (Nat.le_of_ble_eq_true rfl) (Nat.le_of_ble_eq_true rfl) (hst := rfl) (fun _ _ _ h => h)
  refine mv_iload_n d_TrustDeskModel_isScheme_0 rfl rfl ?_
  have := mz_hi x1
  refine mv_if_ltZ (tgt := 16) (a := x1.toInt) d_TrustDeskModel_isScheme_1 (by decide) rfl (fun b18 => ?_) (fun b18 => ?_)
  · refine mv_iconst (v := 0) d_TrustDeskModel_isScheme_16 (by decide) ?_
    refine mv_iret d_TrustDeskModel_isScheme_17 rfl (by decide) ?_
    refine mv_if_eq_t (tgt := 34) d_TrustDeskModel_settle_10 (by decide) (by decide) ?_
    refine mv_iconst (v := (-1)) d_TrustDeskModel_settle_34 (by decide) ?_
    exact mv_iret d_TrustDeskModel_settle_35 rfl (by first | rfl | decide) ⟨_, I6, _, rfl, R9, K13, K14, K15, K16⟩
  · refine mv_iload_n d_TrustDeskModel_isScheme_4 rfl rfl ?_
    refine mv_aload_n d_TrustDeskModel_isScheme_5 rfl rfl ?_
    obtain ⟨v20, q19⟩ := tm_atI I6 h_o0 (k := 53) rfl
    refine tr_getK q19 d_TrustDeskModel_isScheme_6 f_TrustDeskModel_501_13 ?_
    have := R9.f (k := 53) q19 rfl
    have := (tm_rv q19).symm.trans z12
    have := tm_rv q19
    have := mz_hi x1
    have := mz_hi v20
    refine mv_icmp_geZ (tgt := 16) (a := x1.toInt) (b := v20.toInt) d_TrustDeskModel_isScheme_9 (by decide) rfl rfl (fun b21 => ?_) (fun b21 => ?_)
    · refine mv_iconst (v := 0) d_TrustDeskModel_isScheme_16 (by decide) ?_
      refine mv_iret d_TrustDeskModel_isScheme_17 rfl (by decide) ?_
      refine mv_if_eq_t (tgt := 34) d_TrustDeskModel_settle_10 (by decide) (by decide) ?_
      refine mv_iconst (v := (-1)) d_TrustDeskModel_settle_34 (by decide) ?_
      exact mv_iret d_TrustDeskModel_settle_35 rfl (by first | rfl | decide) ⟨_, I6, _, rfl, R9, K13, K14, K15, K16⟩
    · refine mv_iconst (v := 1) d_TrustDeskModel_isScheme_12 (by decide) ?_
      refine mv_goto (tgt := 17) d_TrustDeskModel_isScheme_13 (by decide) ?_
      refine mv_iret d_TrustDeskModel_isScheme_17 rfl (by decide) ?_
      refine mv_if_eq_f (tgt := 34) d_TrustDeskModel_settle_10 (by decide) (by decide) ?_
      refine mv_aload_n d_TrustDeskModel_settle_13 rfl rfl ?_
      obtain ⟨a23, q22, t_a23⟩ := tm_atR I6 h_o0 (k := 59) rfl
      refine tr_getK q22 d_TrustDeskModel_settle_14 f_TrustDeskModel_137_13 ?_
      refine mv_iload_n d_TrustDeskModel_settle_17 rfl rfl ?_
      refine tr_ialdR (o := o0) (k := 59) I6 q22 t_a23 (by decide) d_TrustDeskModel_settle_18 (vp_in_iff.mpr (by have := R9.1 53 _ _ rfl; omega)) (fun v24 e25 => ?_)
      have := mz_hi v24
      refine mv_if_neZ (tgt := 34) (a := v24.toInt) d_TrustDeskModel_settle_19 (by decide) rfl (fun b26 => ?_) (fun b26 => ?_)
      · refine mv_iconst (v := (-1)) d_TrustDeskModel_settle_34 (by decide) ?_
        exact mv_iret d_TrustDeskModel_settle_35 rfl (by first | rfl | decide) ⟨_, I6, _, rfl, R9, K13, K14, K15, K16⟩
      · refine mv_aload_n d_TrustDeskModel_settle_22 rfl rfl ?_
        obtain ⟨v28, q27⟩ := tm_atI I6 h_o0 (k := 1) rfl
        refine tr_getK q27 d_TrustDeskModel_settle_23 f_TrustDeskModel_164_13 ?_
        have := R9.f (k := 1) q27 rfl
        refine mv_aload_n d_TrustDeskModel_settle_26 rfl rfl ?_
        refine mv_iload_n d_TrustDeskModel_settle_27 rfl rfl ?_
        obtain ⟨_, b29, -⟩ := I6.1 _ _ h_o0
        refine mv_callV (kc1 := 0) (ks1 := 0) (kc' := 0) (ks' := 0) (As := [.int x1]) (st9 := [.int x1, .ref o0, .int v28]) d_TrustDeskModel_settle_28 lV_TrustDeskModel_509 b29 rfl (mj_enter (by decide) (Nat.le_of_ble_eq_true rfl) ?_) rfl (Nat.le_of_ble_eq_true rfl) (Nat.le_of_ble_eq_true rfl) (Nat.le_of_ble_eq_true rfl) (hst := rfl) (fun _ _ _ h => h)
        refine mv_aload_n d_TrustDeskModel_lastDay_0 rfl rfl ?_
        obtain ⟨a31, q30, t_a31⟩ := tm_atR I6 h_o0 (k := 58) rfl
        refine tr_getK q30 d_TrustDeskModel_lastDay_1 f_TrustDeskModel_134_13 ?_
        refine mv_iload_n d_TrustDeskModel_lastDay_4 rfl rfl ?_
        refine tr_ialdR (o := o0) (k := 58) I6 q30 t_a31 (by decide) d_TrustDeskModel_lastDay_5 (vp_in_iff.mpr (by have := R9.1 53 _ _ rfl; omega)) (fun v32 e33 => ?_)
        refine mv_iret d_TrustDeskModel_lastDay_6 rfl (by first | rfl | decide) ?_
        have := mz_hi v28
        have := mz_hi v32
        refine mv_icmp_gtZ (tgt := 36) (a := v28.toInt) (b := v32.toInt) d_TrustDeskModel_settle_31 (by decide) rfl rfl (fun b34 => ?_) (fun b34 => ?_)
        · refine mv_aload_n d_TrustDeskModel_settle_36 rfl rfl ?_
          refine mv_iload_n d_TrustDeskModel_settle_37 rfl rfl ?_
          obtain ⟨_, b41, -⟩ := I6.1 _ _ h_o0
          refine mv_callV (kc' := 0) (ks' := 0) (As := [.int x1]) (st9 := [.int x1, .ref o0]) d_TrustDeskModel_settle_38 lV_TrustDeskModel_551 b41 rfl (tc_TrustDeskModel_failsBy_x (d := d) (x9 := x9) (o0 := o0) (x1 := x1) h_o0 (by have := R9.1 53 _ _ rfl; omega) R9 K13 K16 (by have := R9.1 53 _ _ rfl; omega) I6.start) rfl (Nat.le_of_ble_eq_true rfl) (Nat.le_of_ble_eq_true rfl) (Nat.le_of_ble_eq_true rfl) (hst := rfl) (fun b35r M36 n37 b35 => ?_)
          obtain ⟨T38, J39, v42, rfl, R43, f44⟩ := b35
          have I40 := I6.call J39 (tm_sub (by decide)) (Or.inl rfl)
          have t45 := J39.up h_o0
          replace f44 := Im.i f44
          have z46 := (rv_c I6 J39 (I6.up h_o0) (k := 53) rfl).trans z12
          have K47 : rC M36 o0 44 := K13.same (sA_c I6 J39 (I6.up h_o0) (by decide +kernel)) (sF_c I6 J39 (I6.up h_o0) (by decide +kernel))
          have K48 : rP M36 o0 := K14.same (sA_c I6 J39 (I6.up h_o0) (by decide +kernel)) (sF_c I6 J39 (I6.up h_o0) (by decide +kernel))
          have K49 : rB M36 o0 12 := K15.same (sA_c I6 J39 (I6.up h_o0) (by decide +kernel)) (sF_c I6 J39 (I6.up h_o0) (by decide +kernel))
          have K50 : rX M36 o0 := K16.same (sA_c I6 J39 (I6.up h_o0) (by decide +kernel)) (sF_c I6 J39 (I6.up h_o0) (by decide +kernel))
          have K51 : v42.toInt = 0 → rCB M36 o0 x1.toNatClampNeg := f44
          clear z12
          have q52 := J39.keep h_o0 (by decide) q7
          have q53 := J39.keep h_o0 (by decide) q19
          have q54 := J39.keep h_o0 (by decide) q22
          have t55 := J39.up t_a23
          have q56 := J39.keep h_o0 (by decide) q27
          have q57 := J39.keep h_o0 (by decide) q30
          have t58 := J39.up t_a31
          refine mv_istore_n (lv' := [(2, .int v42), (0, .ref o0), (1, .int x1)]) d_TrustDeskModel_settle_41 rfl (by decide) rfl ?_
          refine mv_aload_n d_TrustDeskModel_settle_42 rfl rfl ?_
          obtain ⟨a60, q59, t_a60⟩ := tm_atR I40 t45 (k := 60) rfl
          refine tr_getK q59 d_TrustDeskModel_settle_43 f_TrustDeskModel_140_13 ?_
          refine mv_iload_n d_TrustDeskModel_settle_46 rfl rfl ?_
          refine mv_iload_n d_TrustDeskModel_settle_47 rfl rfl ?_
          refine tr_iastR (k := 60) I40 R43 (I40.up h_o0) q59 t_a60 (by decide) (by decide) (fun lo hi h => by cases h) (Or.inl (by decide)) d_TrustDeskModel_settle_48 (vp_in_iff.mpr (by have := R43.1 53 _ _ rfl; omega)) (fun M61 I62 K63 R64 E65 A66 V67 => ?_)
          have z68 := (V67 53).trans z46
          have K69 : rC M61 o0 44 := K47.same (sA_a A66 (by decide +kernel)) (sF_a V67)
          have K70 : rP M61 o0 := K48.same (sA_a A66 (by decide +kernel)) (sF_a V67)
          have K71 : rB M61 o0 12 := K49.same (sA_a A66 (by decide +kernel)) (sF_a V67)
          have K72 : rX M61 o0 := K50.same (sA_a A66 (by decide +kernel)) (sF_a V67)
          have K73 : v42.toInt = 0 → rCB M61 o0 x1.toNatClampNeg := (fun h9 => (K51 h9).same (sA_a A66 (by decide +kernel)) (sF_a V67))
          clear z46
          refine mv_aload_n d_TrustDeskModel_settle_49 rfl rfl ?_
          refine tr_getK (k := 59) (K63 _ 13 59 _ q54) d_TrustDeskModel_settle_50 f_TrustDeskModel_137_13 ?_
          refine mv_iload_n d_TrustDeskModel_settle_53 rfl rfl ?_
          refine mv_iload_n d_TrustDeskModel_settle_54 rfl rfl ?_
          have := mz_hi v42
          refine mv_if_neZ (tgt := 62) (a := v42.toInt) d_TrustDeskModel_settle_55 (by decide) rfl (fun b74 => ?_) (fun b74 => ?_)
          · refine mv_iconst (v := 2) d_TrustDeskModel_settle_62 (by decide) ?_
            refine tr_iastR (k := 59) I62 R64 (I62.up h_o0) (K63 _ 13 59 _ q54) t55 (by decide) (by decide) (fun lo hi h => by cases h) (Or.inl (by decide)) d_TrustDeskModel_settle_63 (vp_in_iff.mpr (by have := R64.1 53 _ _ rfl; omega)) (fun M75 I76 K77 R78 E79 A80 V81 => ?_)
            have z82 := (V81 53).trans z68
            have K83 : rC M75 o0 44 := K69.same (sA_a A80 (by decide +kernel)) (sF_a V81)
            have K84 : rP M75 o0 := K70.same (sA_a A80 (by decide +kernel)) (sF_a V81)
            have K85 : rB M75 o0 12 := K71.same (sA_a A80 (by decide +kernel)) (sF_a V81)
            have K86 : rX M75 o0 := K72.same (sA_a A80 (by decide +kernel)) (sF_a V81)
            have K87 : v42.toInt = 0 → rCB M75 o0 x1.toNatClampNeg := (fun h9 => (K73 h9).same (sA_a A80 (by decide +kernel)) (sF_a V81))
            clear z68
            refine mv_iload_n d_TrustDeskModel_settle_64 rfl rfl ?_
            have := mz_hi v42
            refine mv_if_neZ (tgt := 73) (a := v42.toInt) d_TrustDeskModel_settle_65 (by decide) rfl (fun b88 => ?_) (fun b88 => absurd b88 (by omega))
            refine mv_iload_n d_TrustDeskModel_settle_73 rfl rfl ?_
            exact mv_iret d_TrustDeskModel_settle_74 rfl (by first | rfl | decide) ⟨_, I76, _, rfl, R78, K83, K84, K85, K86⟩
          · refine mv_iconst (v := 1) d_TrustDeskModel_settle_58 (by decide) ?_
            refine mv_goto (tgt := 63) d_TrustDeskModel_settle_59 (by decide) ?_
            refine tr_iastR (k := 59) I62 R64 (I62.up h_o0) (K63 _ 13 59 _ q54) t55 (by decide) (by decide) (fun lo hi h => by cases h) (Or.inl (by decide)) d_TrustDeskModel_settle_63 (vp_in_iff.mpr (by have := R64.1 53 _ _ rfl; omega)) (fun M89 I90 K91 R92 E93 A94 V95 => ?_)
            have z96 := (V95 53).trans z68
            have K97 : rC M89 o0 44 := K69.same (sA_a A94 (by decide +kernel)) (sF_a V95)
            have K98 : rP M89 o0 := K70.same (sA_a A94 (by decide +kernel)) (sF_a V95)
            have K99 : rB M89 o0 12 := K71.same (sA_a A94 (by decide +kernel)) (sF_a V95)
            have K100 : rX M89 o0 := K72.same (sA_a A94 (by decide +kernel)) (sF_a V95)
            have K101 : v42.toInt = 0 → rCB M89 o0 x1.toNatClampNeg := (fun h9 => (K73 h9).same (sA_a A94 (by decide +kernel)) (sF_a V95))
            clear z68
            refine mv_iload_n d_TrustDeskModel_settle_64 rfl rfl ?_
            have := mz_hi v42
            refine mv_if_neZ (tgt := 73) (a := v42.toInt) d_TrustDeskModel_settle_65 (by decide) rfl (fun b102 => absurd b102 (by omega)) (fun b102 => ?_)
            refine mv_aload_n d_TrustDeskModel_settle_68 rfl rfl ?_
            refine mv_iload_n d_TrustDeskModel_settle_69 rfl rfl ?_
            obtain ⟨_, b109, -⟩ := I90.1 _ _ t45
            refine mv_callV (kc' := 0) (ks' := 0) (As := [.int x1]) (st9 := [.int x1, .ref o0]) d_TrustDeskModel_settle_70 lV_TrustDeskModel_554 b109 rfl (tc_TrustDeskModel_makes_x (d := d) (x9 := x9) (o0 := o0) (x1 := x1) t45 (by have := R92.1 53 _ _ rfl; omega) R92 K97 K98 K99 K100 (by have := R92.1 53 _ _ rfl; omega) (K101 (by omega)) I90.start) rfl (Nat.le_of_ble_eq_true rfl) (Nat.le_of_ble_eq_true rfl) (Nat.le_of_ble_eq_true rfl) (hst := rfl) (fun b103r M104 n105 b103 => ?_)
            obtain ⟨T106, J107, rfl, R110, f111, f112, f113⟩ := b103
            have I108 := I90.call J107 (tm_sub (by decide)) (Or.inl rfl)
            have t114 := J107.up t45
            have z115 := (rv_c I90 J107 (I90.up h_o0) (k := 53) rfl).trans z96
            have K116 : rC M104 o0 44 := f111
            have K117 : rP M104 o0 := f112
            have K118 : rB M104 o0 12 := f113
            have K119 : rX M104 o0 := K100.same (sA_c I90 J107 (I90.up h_o0) (by decide +kernel)) (sF_c I90 J107 (I90.up h_o0) (by decide +kernel))
            clear z96
            have q120 := J107.keep t45 (by decide) (K91 _ 13 0 _ (K63 _ 13 0 _ q52))
            have q121 := J107.keep t45 (by decide) (K91 _ 13 53 _ (K63 _ 13 53 _ q53))
            have q122 := J107.keep t45 (by decide) (K91 _ 13 59 _ (K63 _ 13 59 _ q54))
            have t123 := J107.up t55
            have q124 := J107.keep t45 (by decide) (K91 _ 13 1 _ (K63 _ 13 1 _ q56))
            have q125 := J107.keep t45 (by decide) (K91 _ 13 58 _ (K63 _ 13 58 _ q57))
            have t126 := J107.up t58
            have q127 := J107.keep t45 (by decide) (K91 _ 13 60 _ (K63 _ 13 60 _ q59))
            have t128 := J107.up t_a60
            refine mv_iload_n d_TrustDeskModel_settle_73 rfl rfl ?_
            exact mv_iret d_TrustDeskModel_settle_74 rfl (by first | rfl | decide) ⟨_, I108, _, rfl, R110, K116, K117, K118, K119⟩
        · refine mv_iconst (v := (-1)) d_TrustDeskModel_settle_34 (by decide) ?_
          exact mv_iret d_TrustDeskModel_settle_35 rfl (by first | rfl | decide) ⟨_, I6, _, rfl, R9, K13, K14, K15, K16⟩
