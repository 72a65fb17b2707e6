abbrev kY_TrustDeskModel_propose : mj_Y := (⟨"TrustDeskModel", "propose", "(III)I"⟩, prog_14_method_72_code, 5, (Option.some Jvm.ClassFile.FieldType.int))
theorem d_TrustDeskModel_propose_0 : decode kY_TrustDeskModel_propose.2.1 0 = .ok (.aload_n 0, 1) := by decide +kernel
theorem d_TrustDeskModel_propose_1 : decode kY_TrustDeskModel_propose.2.1 1 = .ok (.iconst 0, 1) := by decide +kernel
theorem d_TrustDeskModel_propose_2 : decode kY_TrustDeskModel_propose.2.1 2 = .ok (.putfield 1, 3) := by decide +kernel
theorem d_TrustDeskModel_propose_5 : decode kY_TrustDeskModel_propose.2.1 5 = .ok (.aload_n 0, 1) := by decide +kernel
theorem d_TrustDeskModel_propose_6 : decode kY_TrustDeskModel_propose.2.1 6 = .ok (.iload_n 2, 1) := by decide +kernel
theorem d_TrustDeskModel_propose_7 : decode kY_TrustDeskModel_propose.2.1 7 = .ok (.invokevirtual 418, 3) := by decide +kernel
theorem d_TrustDeskModel_propose_10 : decode kY_TrustDeskModel_propose.2.1 10 = .ok (.ifCond .eq 24, 3) := by decide +kernel
theorem d_TrustDeskModel_propose_34 : decode kY_TrustDeskModel_propose.2.1 34 = .ok (.iconst (-1), 1) := by decide +kernel
theorem d_TrustDeskModel_propose_35 : decode kY_TrustDeskModel_propose.2.1 35 = .ok (.ireturn, 1) := by decide +kernel
theorem d_TrustDeskModel_propose_13 : decode kY_TrustDeskModel_propose.2.1 13 = .ok (.iload_n 1, 1) := by decide +kernel
theorem d_TrustDeskModel_propose_14 : decode kY_TrustDeskModel_propose.2.1 14 = .ok (.i2l, 1) := by decide +kernel
theorem d_TrustDeskModel_propose_15 : decode kY_TrustDeskModel_propose.2.1 15 = .ok (.lconst 0, 1) := by decide +kernel
theorem d_TrustDeskModel_propose_16 : decode kY_TrustDeskModel_propose.2.1 16 = .ok (.ldc2_w 504, 3) := by decide +kernel
theorem d_TrustDeskModel_propose_19 : decode kY_TrustDeskModel_propose.2.1 19 = .ok (.invokestatic 169, 3) := by decide +kernel
theorem d_TrustDeskModel_propose_22 : decode kY_TrustDeskModel_propose.2.1 22 = .ok (.ifCond .eq 12, 3) := by decide +kernel
theorem d_TrustDeskModel_propose_25 : decode kY_TrustDeskModel_propose.2.1 25 = .ok (.aload_n 0, 1) := by decide +kernel
theorem d_TrustDeskModel_propose_26 : decode kY_TrustDeskModel_propose.2.1 26 = .ok (.getfield 501, 3) := by decide +kernel
theorem d_TrustDeskModel_propose_29 : decode kY_TrustDeskModel_propose.2.1 29 = .ok (.bipush 40, 2) := by decide +kernel
theorem d_TrustDeskModel_propose_31 : decode kY_TrustDeskModel_propose.2.1 31 = .ok (.if_icmp .ne 5, 3) := by decide +kernel
theorem d_TrustDeskModel_propose_36 : decode kY_TrustDeskModel_propose.2.1 36 = .ok (.iload_n 1, 1) := by decide +kernel
theorem d_TrustDeskModel_propose_37 : decode kY_TrustDeskModel_propose.2.1 37 = .ok (.ifCond .ne 23, 3) := by decide +kernel
theorem d_TrustDeskModel_propose_60 : decode kY_TrustDeskModel_propose.2.1 60 = .ok (.iload_n 1, 1) := by decide +kernel
theorem d_TrustDeskModel_propose_61 : decode kY_TrustDeskModel_propose.2.1 61 = .ok (.iconst 1, 1) := by decide +kernel
theorem d_TrustDeskModel_propose_62 : decode kY_TrustDeskModel_propose.2.1 62 = .ok (.if_icmp .ne 11, 3) := by decide +kernel
theorem d_TrustDeskModel_propose_73 : decode kY_TrustDeskModel_propose.2.1 73 = .ok (.iload_n 1, 1) := by decide +kernel
theorem d_TrustDeskModel_propose_74 : decode kY_TrustDeskModel_propose.2.1 74 = .ok (.iconst 2, 1) := by decide +kernel
theorem d_TrustDeskModel_propose_75 : decode kY_TrustDeskModel_propose.2.1 75 = .ok (.if_icmp .ne 15, 3) := by decide +kernel
theorem d_TrustDeskModel_propose_90 : decode kY_TrustDeskModel_propose.2.1 90 = .ok (.iload_n 3, 1) := by decide +kernel
theorem d_TrustDeskModel_propose_91 : decode kY_TrustDeskModel_propose.2.1 91 = .ok (.ifCond .lt 7, 3) := by decide +kernel
theorem d_TrustDeskModel_propose_98 : decode kY_TrustDeskModel_propose.2.1 98 = .ok (.iconst 0, 1) := by decide +kernel
theorem d_TrustDeskModel_propose_99 : decode kY_TrustDeskModel_propose.2.1 99 = .ok (.istore 4, 2) := by decide +kernel
theorem d_TrustDeskModel_propose_101 : decode kY_TrustDeskModel_propose.2.1 101 = .ok (.iload 4, 2) := by decide +kernel
theorem d_TrustDeskModel_propose_103 : decode kY_TrustDeskModel_propose.2.1 103 = .ok (.ifCond .ne 5, 3) := by decide +kernel
theorem d_TrustDeskModel_propose_106 : decode kY_TrustDeskModel_propose.2.1 106 = .ok (.iconst (-1), 1) := by decide +kernel
theorem d_TrustDeskModel_propose_107 : decode kY_TrustDeskModel_propose.2.1 107 = .ok (.ireturn, 1) := by decide +kernel
theorem d_TrustDeskModel_propose_94 : decode kY_TrustDeskModel_propose.2.1 94 = .ok (.iconst 1, 1) := by decide +kernel
theorem d_TrustDeskModel_propose_95 : decode kY_TrustDeskModel_propose.2.1 95 = .ok (.goto 4, 3) := by decide +kernel
theorem d_TrustDeskModel_propose_108 : decode kY_TrustDeskModel_propose.2.1 108 = .ok (.aload_n 0, 1) := by decide +kernel
theorem d_TrustDeskModel_propose_109 : decode kY_TrustDeskModel_propose.2.1 109 = .ok (.getfield 122, 3) := by decide +kernel
theorem d_TrustDeskModel_propose_112 : decode kY_TrustDeskModel_propose.2.1 112 = .ok (.aload_n 0, 1) := by decide +kernel
theorem d_TrustDeskModel_propose_113 : decode kY_TrustDeskModel_propose.2.1 113 = .ok (.getfield 501, 3) := by decide +kernel
theorem d_TrustDeskModel_propose_116 : decode kY_TrustDeskModel_propose.2.1 116 = .ok (.iload_n 1, 1) := by decide +kernel
theorem d_TrustDeskModel_propose_117 : decode kY_TrustDeskModel_propose.2.1 117 = .ok (.iastore, 1) := by decide +kernel
theorem d_TrustDeskModel_propose_118 : decode kY_TrustDeskModel_propose.2.1 118 = .ok (.aload_n 0, 1) := by decide +kernel
theorem d_TrustDeskModel_propose_119 : decode kY_TrustDeskModel_propose.2.1 119 = .ok (.getfield 125, 3) := by decide +kernel
theorem d_TrustDeskModel_propose_122 : decode kY_TrustDeskModel_propose.2.1 122 = .ok (.aload_n 0, 1) := by decide +kernel
theorem d_TrustDeskModel_propose_123 : decode kY_TrustDeskModel_propose.2.1 123 = .ok (.getfield 501, 3) := by decide +kernel
theorem d_TrustDeskModel_propose_126 : decode kY_TrustDeskModel_propose.2.1 126 = .ok (.iload_n 2, 1) := by decide +kernel
theorem d_TrustDeskModel_propose_127 : decode kY_TrustDeskModel_propose.2.1 127 = .ok (.iastore, 1) := by decide +kernel
theorem d_TrustDeskModel_propose_128 : decode kY_TrustDeskModel_propose.2.1 128 = .ok (.aload_n 0, 1) := by decide +kernel
theorem d_TrustDeskModel_propose_129 : decode kY_TrustDeskModel_propose.2.1 129 = .ok (.getfield 128, 3) := by decide +kernel
theorem d_TrustDeskModel_propose_132 : decode kY_TrustDeskModel_propose.2.1 132 = .ok (.aload_n 0, 1) := by decide +kernel
theorem d_TrustDeskModel_propose_133 : decode kY_TrustDeskModel_propose.2.1 133 = .ok (.getfield 501, 3) := by decide +kernel
theorem d_TrustDeskModel_propose_136 : decode kY_TrustDeskModel_propose.2.1 136 = .ok (.iload_n 3, 1) := by decide +kernel
theorem d_TrustDeskModel_propose_137 : decode kY_TrustDeskModel_propose.2.1 137 = .ok (.iastore, 1) := by decide +kernel
theorem d_TrustDeskModel_propose_138 : decode kY_TrustDeskModel_propose.2.1 138 = .ok (.aload_n 0, 1) := by decide +kernel
theorem d_TrustDeskModel_propose_139 : decode kY_TrustDeskModel_propose.2.1 139 = .ok (.getfield 131, 3) := by decide +kernel
theorem d_TrustDeskModel_propose_142 : decode kY_TrustDeskModel_propose.2.1 142 = .ok (.aload_n 0, 1) := by decide +kernel
theorem d_TrustDeskModel_propose_143 : decode kY_TrustDeskModel_propose.2.1 143 = .ok (.getfield 501, 3) := by decide +kernel
theorem d_TrustDeskModel_propose_146 : decode kY_TrustDeskModel_propose.2.1 146 = .ok (.aload_n 0, 1) := by decide +kernel
theorem d_TrustDeskModel_propose_147 : decode kY_TrustDeskModel_propose.2.1 147 = .ok (.getfield 164, 3) := by decide +kernel
theorem d_TrustDeskModel_propose_150 : decode kY_TrustDeskModel_propose.2.1 150 = .ok (.iastore, 1) := by decide +kernel
theorem d_TrustDeskModel_propose_151 : decode kY_TrustDeskModel_propose.2.1 151 = .ok (.aload_n 0, 1) := by decide +kernel
theorem d_TrustDeskModel_propose_152 : decode kY_TrustDeskModel_propose.2.1 152 = .ok (.getfield 134, 3) := by decide +kernel
theorem d_TrustDeskModel_propose_155 : decode kY_TrustDeskModel_propose.2.1 155 = .ok (.aload_n 0, 1) := by decide +kernel
theorem d_TrustDeskModel_propose_156 : decode kY_TrustDeskModel_propose.2.1 156 = .ok (.getfield 501, 3) := by decide +kernel
theorem d_TrustDeskModel_propose_159 : decode kY_TrustDeskModel_propose.2.1 159 = .ok (.aload_n 0, 1) := by decide +kernel
theorem d_TrustDeskModel_propose_160 : decode kY_TrustDeskModel_propose.2.1 160 = .ok (.getfield 164, 3) := by decide +kernel
theorem d_TrustDeskModel_propose_163 : decode kY_TrustDeskModel_propose.2.1 163 = .ok (.aload_n 0, 1) := by decide +kernel
theorem d_TrustDeskModel_propose_164 : decode kY_TrustDeskModel_propose.2.1 164 = .ok (.aload_n 0, 1) := by decide +kernel
theorem d_TrustDeskModel_propose_165 : decode kY_TrustDeskModel_propose.2.1 165 = .ok (.getfield 164, 3) := by decide +kernel
theorem d_TrustDeskModel_propose_168 : decode kY_TrustDeskModel_propose.2.1 168 = .ok (.iconst 2, 1) := by decide +kernel
theorem d_TrustDeskModel_propose_169 : decode kY_TrustDeskModel_propose.2.1 169 = .ok (.invokevirtual 396, 3) := by decide +kernel
theorem d_TrustDeskModel_propose_172 : decode kY_TrustDeskModel_propose.2.1 172 = .ok (.iadd, 1) := by decide +kernel
theorem d_TrustDeskModel_propose_173 : decode kY_TrustDeskModel_propose.2.1 173 = .ok (.iastore, 1) := by decide +kernel
theorem d_TrustDeskModel_propose_174 : decode kY_TrustDeskModel_propose.2.1 174 = .ok (.aload_n 0, 1) := by decide +kernel
theorem d_TrustDeskModel_propose_175 : decode kY_TrustDeskModel_propose.2.1 175 = .ok (.getfield 137, 3) := by decide +kernel
theorem d_TrustDeskModel_propose_178 : decode kY_TrustDeskModel_propose.2.1 178 = .ok (.aload_n 0, 1) := by decide +kernel
theorem d_TrustDeskModel_propose_179 : decode kY_TrustDeskModel_propose.2.1 179 = .ok (.getfield 501, 3) := by decide +kernel
theorem d_TrustDeskModel_propose_182 : decode kY_TrustDeskModel_propose.2.1 182 = .ok (.iconst 0, 1) := by decide +kernel
theorem d_TrustDeskModel_propose_183 : decode kY_TrustDeskModel_propose.2.1 183 = .ok (.iastore, 1) := by decide +kernel
theorem d_TrustDeskModel_propose_184 : decode kY_TrustDeskModel_propose.2.1 184 = .ok (.aload_n 0, 1) := by decide +kernel
theorem d_TrustDeskModel_propose_185 : decode kY_TrustDeskModel_propose.2.1 185 = .ok (.dup, 1) := by decide +kernel
theorem d_TrustDeskModel_propose_186 : decode kY_TrustDeskModel_propose.2.1 186 = .ok (.getfield 501, 3) := by decide +kernel
theorem d_TrustDeskModel_propose_189 : decode kY_TrustDeskModel_propose.2.1 189 = .ok (.iconst 1, 1) := by decide +kernel
theorem d_TrustDeskModel_propose_190 : decode kY_TrustDeskModel_propose.2.1 190 = .ok (.iadd, 1) := by decide +kernel
theorem d_TrustDeskModel_propose_191 : decode kY_TrustDeskModel_propose.2.1 191 = .ok (.putfield 501, 3) := by decide +kernel
theorem p_TrustDeskModel_501_13 : mj_fp "TrustDeskModel" 501 13 53 (kt_TrustDeskModel 53) false := ⟨kR_TrustDeskModel, kF_TrustDeskModel, 72, "TrustDeskModel", kt_TrustDeskModel, rfl, kg_13, by decide, (mj_in1 (List.mem_of_getElem? (i := 1439) (by decide +kernel)) rfl), Or.inl rfl, kto_TrustDeskModel, kn_TrustDeskModel, rfl, rfl, fun h => by cases h⟩
theorem d_TrustDeskModel_propose_194 : decode kY_TrustDeskModel_propose.2.1 194 = .ok (.aload_n 0, 1) := by decide +kernel
theorem d_TrustDeskModel_propose_195 : decode kY_TrustDeskModel_propose.2.1 195 = .ok (.getfield 501, 3) := by decide +kernel
theorem d_TrustDeskModel_propose_198 : decode kY_TrustDeskModel_propose.2.1 198 = .ok (.iconst 1, 1) := by decide +kernel
theorem d_TrustDeskModel_propose_199 : decode kY_TrustDeskModel_propose.2.1 199 = .ok (.isub, 1) := by decide +kernel
theorem d_TrustDeskModel_propose_200 : decode kY_TrustDeskModel_propose.2.1 200 = .ok (.ireturn, 1) := by decide +kernel
theorem d_TrustDeskModel_propose_78 : decode kY_TrustDeskModel_propose.2.1 78 = .ok (.iload_n 3, 1) := by decide +kernel
theorem d_TrustDeskModel_propose_79 : decode kY_TrustDeskModel_propose.2.1 79 = .ok (.i2l, 1) := by decide +kernel
theorem d_TrustDeskModel_propose_80 : decode kY_TrustDeskModel_propose.2.1 80 = .ok (.lconst 1, 1) := by decide +kernel
theorem d_TrustDeskModel_propose_81 : decode kY_TrustDeskModel_propose.2.1 81 = .ok (.ldc2_w 421, 3) := by decide +kernel
theorem d_TrustDeskModel_propose_84 : decode kY_TrustDeskModel_propose.2.1 84 = .ok (.invokestatic 169, 3) := by decide +kernel
theorem d_TrustDeskModel_propose_87 : decode kY_TrustDeskModel_propose.2.1 87 = .ok (.goto 12, 3) := by decide +kernel
theorem d_TrustDeskModel_propose_65 : decode kY_TrustDeskModel_propose.2.1 65 = .ok (.aload_n 0, 1) := by decide +kernel
theorem d_TrustDeskModel_propose_66 : decode kY_TrustDeskModel_propose.2.1 66 = .ok (.iload_n 3, 1) := by decide +kernel
theorem d_TrustDeskModel_propose_67 : decode kY_TrustDeskModel_propose.2.1 67 = .ok (.invokevirtual 418, 3) := by decide +kernel
theorem d_TrustDeskModel_propose_70 : decode kY_TrustDeskModel_propose.2.1 70 = .ok (.goto 29, 3) := by decide +kernel
theorem d_TrustDeskModel_propose_40 : decode kY_TrustDeskModel_propose.2.1 40 = .ok (.iload_n 3, 1) := by decide +kernel
theorem d_TrustDeskModel_propose_41 : decode kY_TrustDeskModel_propose.2.1 41 = .ok (.ifCond .lt 15, 3) := by decide +kernel
theorem d_TrustDeskModel_propose_56 : decode kY_TrustDeskModel_propose.2.1 56 = .ok (.iconst 0, 1) := by decide +kernel
theorem d_TrustDeskModel_propose_57 : decode kY_TrustDeskModel_propose.2.1 57 = .ok (.goto 42, 3) := by decide +kernel
theorem d_TrustDeskModel_propose_44 : decode kY_TrustDeskModel_propose.2.1 44 = .ok (.iload_n 3, 1) := by decide +kernel
theorem d_TrustDeskModel_propose_45 : decode kY_TrustDeskModel_propose.2.1 45 = .ok (.aload_n 0, 1) := by decide +kernel
theorem d_TrustDeskModel_propose_46 : decode kY_TrustDeskModel_propose.2.1 46 = .ok (.getfield 435, 3) := by decide +kernel
theorem d_TrustDeskModel_propose_49 : decode kY_TrustDeskModel_propose.2.1 49 = .ok (.if_icmp .ge 7, 3) := by decide +kernel
theorem d_TrustDeskModel_propose_52 : decode kY_TrustDeskModel_propose.2.1 52 = .ok (.iconst 1, 1) := by decide +kernel
theorem d_TrustDeskModel_propose_53 : decode kY_TrustDeskModel_propose.2.1 53 = .ok (.goto 46, 3) := by decide +kernel
def w_TrustDeskModel_propose_x : List Nat := [1300, 1353, 20054, 20055, 20056, 20057, 20058, 20059]
set_option maxHeartbeats 100000000 in theorem tc_TrustDeskModel_propose_x {g : mj_G} {l : Launch} {d : Nat} {T0 : tm_H} {M0 : mj_M} {n0 x9 : Nat} {o0 : Nat} {x1 : Int32} {x2 : Int32} {x3 : Int32} (h_o0 : T0 o0 = some (0, 13, 0)) (yR : rI M0 o0) (y8 : ∀ i : Nat, i < 880 → 0 ≤ ra M0 o0 8 i) (yX : rX M0 o0) (I0 : tm_I tm_FT (tm_in w_TrustDeskModel_propose_x) x9 T0 M0 n0 T0 M0 n0) : mj_Met g l kY_TrustDeskModel_propose (d + 2) [.ref o0, .int x1, .int x2, .int x3] M0 n0 0 0 (tm_Q tm_FT (tm_in w_TrustDeskModel_propose_x) x9 T0 M0 n0 (fun r _ M => ∃ v : Int32, r = some (.int v) ∧ rI M o0 ∧ (rX M o0))) := by
  refine mj_enter (by decide) (Nat.le_of_ble_eq_true rfl) ?_
  have K1 : ∀ i : Nat, i < 880 → 0 ≤ ra M0 o0 8 i := y8
  have K2 : rX M0 o0 := yX
  refine mv_aload_n d_TrustDeskModel_propose_0 rfl rfl ?_
  refine mv_iconst (v := 0) d_TrustDeskModel_propose_1 (by decide) ?_
  refine tr_putR (k := 0) I0 yR h_o0 rfl ⟨_, rfl⟩ (fun _ h => by cases h) rfl (fun lo hi h => by cases h) (Or.inl (by decide)) d_TrustDeskModel_propose_2 p_TrustDeskModel_1_13 rfl rfl (fun M3 I4 q5 K6 R7 A8 V9 => ?_)
  have z10 := (V9 53 (by decide))
  have z11 := (V9 49 (by decide))
  have z12 := (V9 32 (by decide))
  have K13 : ∀ i : Nat, i < 880 → 0 ≤ ra M3 o0 8 i := (by have e9 := ((sA_f A8 (by decide)) : sA [8] _ _ _) 8 rfl; rw [e9]; exact K1)
  have K14 : rX M3 o0 := K2.same (sA_f A8 (by decide)) (sF_f V9 (by decide))
  refine mv_aload_n d_TrustDeskModel_propose_5 rfl rfl ?_
  refine mv_iload_n d_TrustDeskModel_propose_6 rfl rfl ?_
  obtain ⟨_, b15, -⟩ := I4.1 _ _ h_o0
  refine mv_callV (kc1 := 0) (ks1 := 0) (kc' := 0) (ks' := 0) (As := [.int x2]) (st9 := [.int x2, .ref o0]) d_TrustDeskModel_propose_7 lV_TrustDeskModel_418 b15 rfl (mj_enter (by decide) (Nat.le_of_ble_eq_true rfl) ?_) rfl (Nat.le_of_ble_eq_true rfl) (Nat.le_of_ble_eq_true rfl) (Nat.le_of_ble_eq_true rfl) (hst := rfl) (fun _ _ _ h => h)
  refine mv_iload_n d_TrustDeskModel_isFund_0 rfl rfl ?_
  have := mz_hi x2
  refine mv_if_ltZ (tgt := 16) (a := x2.toInt) d_TrustDeskModel_isFund_1 (by decide) rfl (fun b16 => ?_) (fun b16 => ?_)
  · refine mv_iconst (v := 0) d_TrustDeskModel_isFund_16 (by decide) ?_
    refine mv_iret d_TrustDeskModel_isFund_17 rfl (by decide) ?_
    refine mv_if_eq_t (tgt := 34) d_TrustDeskModel_propose_10 (by decide) (by decide) ?_
    refine mv_iconst (v := (-1)) d_TrustDeskModel_propose_34 (by decide) ?_
    exact mv_iret d_TrustDeskModel_propose_35 rfl (by first | rfl | decide) ⟨_, I4, _, rfl, R7, K14⟩
  · refine mv_iload_n d_TrustDeskModel_isFund_4 rfl rfl ?_
    refine mv_aload_n d_TrustDeskModel_isFund_5 rfl rfl ?_
    obtain ⟨v18, q17⟩ := tm_atI I4 h_o0 (k := 32) rfl
    refine tr_getK q17 d_TrustDeskModel_isFund_6 f_TrustDeskModel_415_13 ?_
    have := R7.f (k := 32) q17 rfl
    have := (tm_rv q17).symm.trans z12
    have := tm_rv q17
    have := mz_hi x2
    have := mz_hi v18
    refine mv_icmp_geZ (tgt := 16) (a := x2.toInt) (b := v18.toInt) d_TrustDeskModel_isFund_9 (by decide) rfl rfl (fun b19 => ?_) (fun b19 => ?_)
    · refine mv_iconst (v := 0) d_TrustDeskModel_isFund_16 (by decide) ?_
      refine mv_iret d_TrustDeskModel_isFund_17 rfl (by decide) ?_
      refine mv_if_eq_t (tgt := 34) d_TrustDeskModel_propose_10 (by decide) (by decide) ?_
      refine mv_iconst (v := (-1)) d_TrustDeskModel_propose_34 (by decide) ?_
      exact mv_iret d_TrustDeskModel_propose_35 rfl (by first | rfl | decide) ⟨_, I4, _, rfl, R7, K14⟩
    · refine mv_iconst (v := 1) d_TrustDeskModel_isFund_12 (by decide) ?_
      refine mv_goto (tgt := 17) d_TrustDeskModel_isFund_13 (by decide) ?_
      refine mv_iret d_TrustDeskModel_isFund_17 rfl (by decide) ?_
      refine mv_if_eq_f (tgt := 34) d_TrustDeskModel_propose_10 (by decide) (by decide) ?_
      refine mv_iload_n d_TrustDeskModel_propose_13 rfl rfl ?_
      refine mv_i2l (v := x1.toInt64) d_TrustDeskModel_propose_14 rfl ?_
      refine mv_lconst (v := 0) d_TrustDeskModel_propose_15 (by decide) ?_
      refine mv_ldc2 d_TrustDeskModel_propose_16 k_TrustDeskModel_504 ?_
      refine mv_callS (kc1 := 0) (ks1 := 0) (kc' := 0) (ks' := 0) (As := [.long x1.toInt64, .long 0, .long 3]) (st9 := [.long 3, .long 0, .long x1.toInt64]) d_TrustDeskModel_propose_19 lS_TrustDeskModel_169 (mj_enter (by decide) (Nat.le_of_ble_eq_true rfl) ?_) rfl (Nat.le_of_ble_eq_true rfl) (Nat.le_of_ble_eq_true rfl) (Nat.le_of_ble_eq_true rfl) (hst := rfl) (fun _ _ _ h => h)
      refine mv_lload_n d_TrustDeskModel_within_0 rfl rfl ?_
      refine mv_lload_n d_TrustDeskModel_within_1 rfl rfl ?_
      refine mv_lltZ (tgt := 17) (a := x1.toInt) (b := 0) d_TrustDeskModel_within_2 d_TrustDeskModel_within_3 (by decide) (mz_wide _) (by decide) (fun b20 => ?_) (fun b20 => ?_)
      · refine mv_iconst (v := 0) d_TrustDeskModel_within_17 (by decide) ?_
        refine mv_iret d_TrustDeskModel_within_18 rfl (by decide) ?_
        refine mv_if_eq_t (tgt := 34) d_TrustDeskModel_propose_22 (by decide) (by decide) ?_
        refine mv_iconst (v := (-1)) d_TrustDeskModel_propose_34 (by decide) ?_
        exact mv_iret d_TrustDeskModel_propose_35 rfl (by first | rfl | decide) ⟨_, I4, _, rfl, R7, K14⟩
      · refine mv_lload_n d_TrustDeskModel_within_6 rfl rfl ?_
        refine mv_lload d_TrustDeskModel_within_7 rfl ?_
        refine mv_lgtZ (tgt := 17) (a := x1.toInt) (b := 3) d_TrustDeskModel_within_9 d_TrustDeskModel_within_10 (by decide) (mz_wide _) (by decide) (fun b21 => ?_) (fun b21 => ?_)
        · refine mv_iconst (v := 0) d_TrustDeskModel_within_17 (by decide) ?_
          refine mv_iret d_TrustDeskModel_within_18 rfl (by decide) ?_
          refine mv_if_eq_t (tgt := 34) d_TrustDeskModel_propose_22 (by decide) (by decide) ?_
          refine mv_iconst (v := (-1)) d_TrustDeskModel_propose_34 (by decide) ?_
          exact mv_iret d_TrustDeskModel_propose_35 rfl (by first | rfl | decide) ⟨_, I4, _, rfl, R7, K14⟩
        · refine mv_iconst (v := 1) d_TrustDeskModel_within_13 (by decide) ?_
          refine mv_goto (tgt := 18) d_TrustDeskModel_within_14 (by decide) ?_
          refine mv_iret d_TrustDeskModel_within_18 rfl (by decide) ?_
          refine mv_if_eq_f (tgt := 34) d_TrustDeskModel_propose_22 (by decide) (by decide) ?_
          refine mv_aload_n d_TrustDeskModel_propose_25 rfl rfl ?_
          obtain ⟨v23, q22⟩ := tm_atI I4 h_o0 (k := 53) rfl
          refine tr_getK q22 d_TrustDeskModel_propose_26 f_TrustDeskModel_501_13 ?_
          have := R7.f (k := 53) q22 rfl
          have := (tm_rv q22).symm.trans z10
          have := tm_rv q22
          refine mv_bipush (v := 40) d_TrustDeskModel_propose_29 (by decide) ?_
          have := mz_hi v23
          refine mv_icmp_neZ (tgt := 36) (a := v23.toInt) (b := 40) d_TrustDeskModel_propose_31 (by decide) rfl (by decide) (fun b24 => ?_) (fun b24 => ?_)
          · refine mv_iload_n d_TrustDeskModel_propose_36 rfl rfl ?_
            have := mz_hi x1
            refine mv_if_neZ (tgt := 60) (a := x1.toInt) d_TrustDeskModel_propose_37 (by decide) rfl (fun b25 => ?_) (fun b25 => ?_)
            · refine mv_iload_n d_TrustDeskModel_propose_60 rfl rfl ?_
              refine mv_iconst (v := 1) d_TrustDeskModel_propose_61 (by decide) ?_
              have := mz_hi x1
              refine mv_icmp_neZ (tgt := 73) (a := x1.toInt) (b := 1) d_TrustDeskModel_propose_62 (by decide) rfl (by decide) (fun b26 => ?_) (fun b26 => ?_)
              · refine mv_iload_n d_TrustDeskModel_propose_73 rfl rfl ?_
                refine mv_iconst (v := 2) d_TrustDeskModel_propose_74 (by decide) ?_
                have := mz_hi x1
                refine mv_icmp_neZ (tgt := 90) (a := x1.toInt) (b := 2) d_TrustDeskModel_propose_75 (by decide) rfl (by decide) (fun b27 => ?_) (fun b27 => ?_)
                · refine mv_iload_n d_TrustDeskModel_propose_90 rfl rfl ?_
                  have := mz_hi x3
                  refine mv_if_ltZ (tgt := 98) (a := x3.toInt) d_TrustDeskModel_propose_91 (by decide) rfl (fun b28 => ?_) (fun b28 => ?_)
                  · refine mv_iconst (v := 0) d_TrustDeskModel_propose_98 (by decide) ?_
                    refine mv_istore (lv' := [(4, .int 0), (0, .ref o0), (1, .int x1), (2, .int x2), (3, .int x3)]) d_TrustDeskModel_propose_99 (by decide) rfl ?_
                    refine mv_iload d_TrustDeskModel_propose_101 rfl ?_
                    refine mv_if_ne_f (tgt := 108) d_TrustDeskModel_propose_103 (by decide) (by decide) ?_
                    refine mv_iconst (v := (-1)) d_TrustDeskModel_propose_106 (by decide) ?_
                    exact mv_iret d_TrustDeskModel_propose_107 rfl (by first | rfl | decide) ⟨_, I4, _, rfl, R7, K14⟩
                  · refine mv_iconst (v := 1) d_TrustDeskModel_propose_94 (by decide) ?_
                    refine mv_goto (tgt := 99) d_TrustDeskModel_propose_95 (by decide) ?_
                    refine mv_istore (lv' := [(4, .int 1), (0, .ref o0), (1, .int x1), (2, .int x2), (3, .int x3)]) d_TrustDeskModel_propose_99 (by decide) rfl ?_
                    refine mv_iload d_TrustDeskModel_propose_101 rfl ?_
                    refine mv_if_ne_t (tgt := 108) d_TrustDeskModel_propose_103 (by decide) (by decide) ?_
                    refine mv_aload_n d_TrustDeskModel_propose_108 rfl rfl ?_
                    obtain ⟨a30, q29, t_a30⟩ := tm_atR I4 h_o0 (k := 54) rfl
                    refine tr_getK q29 d_TrustDeskModel_propose_109 f_TrustDeskModel_122_13 ?_
                    refine mv_aload_n d_TrustDeskModel_propose_112 rfl rfl ?_
                    refine tr_getK (k := 53) q22 d_TrustDeskModel_propose_113 f_TrustDeskModel_501_13 ?_
                    refine mv_iload_n d_TrustDeskModel_propose_116 rfl rfl ?_
                    refine tr_iastR (k := 54) I4 R7 (I4.up h_o0) q29 t_a30 (by decide) (by decide) (fun lo hi h => by cases h; have := R7.1 53 _ _ rfl; have := R7.1 49 _ _ rfl; have := R7.1 32 _ _ rfl; exact ⟨by show (0 : Int) ≤ x1.toInt; omega, by show x1.toInt ≤ (3 : Int); omega⟩) (Or.inl (by decide)) d_TrustDeskModel_propose_117 (vp_in_iff.mpr (by have := R7.1 53 _ _ rfl; have := R7.1 49 _ _ rfl; have := R7.1 32 _ _ rfl; omega)) (fun M31 I32 K33 R34 E35 A36 V37 => ?_)
                    have z38 := (V37 53).trans z10
                    have z39 := (V37 49).trans z11
                    have z40 := (V37 32).trans z12
                    have h41 : (rv M0 o0 53).toNat = v23.toNatClampNeg := by have := mz_nat9 (i := v23) (by have := R7.1 53 _ _ rfl; have := R7.1 49 _ _ rfl; have := R7.1 32 _ _ rfl; omega); have := R7.1 53 _ _ rfl; have := R7.1 49 _ _ rfl; have := R7.1 32 _ _ rfl; omega
                    have z42 : ra M31 o0 54 ((rv M0 o0 53).toNat) = x1.toInt := (E35 _).trans (if_pos h41)
                    have K43 : ∀ i : Nat, i < 880 → 0 ≤ ra M31 o0 8 i := (by have e9 := ((sA_a A36 (by decide +kernel)) : sA [8] _ _ _) 8 rfl; rw [e9]; exact K13)
                    have K44 : rX M31 o0 := K14.out A36 E35 V37 (Or.inl rfl) (by have := mz_nat9 (i := v23) (by have := R7.1 53 _ _ rfl; have := R7.1 49 _ _ rfl; have := R7.1 32 _ _ rfl; omega); have := R7.1 53 _ _ rfl; have := R7.1 49 _ _ rfl; have := R7.1 32 _ _ rfl; omega)
                    clear z10 z11 z12
                    refine mv_aload_n d_TrustDeskModel_propose_118 rfl rfl ?_
                    obtain ⟨a46, q45, t_a46⟩ := tm_atR I32 h_o0 (k := 55) rfl
                    refine tr_getK q45 d_TrustDeskModel_propose_119 f_TrustDeskModel_125_13 ?_
                    refine mv_aload_n d_TrustDeskModel_propose_122 rfl rfl ?_
                    refine tr_getK (k := 53) (K33 _ 13 53 _ q22) d_TrustDeskModel_propose_123 f_TrustDeskModel_501_13 ?_
                    refine mv_iload_n d_TrustDeskModel_propose_126 rfl rfl ?_
                    refine tr_iastR (k := 55) I32 R34 (I32.up h_o0) q45 t_a46 (by decide) (by decide) (fun lo hi h => by cases h; have := R34.1 53 _ _ rfl; have := R34.1 49 _ _ rfl; have := R34.1 32 _ _ rfl; exact ⟨by show (0 : Int) ≤ x2.toInt; omega, by show x2.toInt ≤ (11 : Int); omega⟩) (Or.inl (by decide)) d_TrustDeskModel_propose_127 (vp_in_iff.mpr (by have := R34.1 53 _ _ rfl; have := R34.1 49 _ _ rfl; have := R34.1 32 _ _ rfl; omega)) (fun M47 I48 K49 R50 E51 A52 V53 => ?_)
                    have z54 := (V53 53).trans z38
                    have z55 := (V53 49).trans z39
                    have z56 := (V53 32).trans z40
                    have z57 := (A52 54 (by decide) rfl ((rv M0 o0 53).toNat)).trans z42
                    have K58 : ∀ i : Nat, i < 880 → 0 ≤ ra M47 o0 8 i := (by have e9 := ((sA_a A52 (by decide +kernel)) : sA [8] _ _ _) 8 rfl; rw [e9]; exact K43)
                    have K59 : rX M47 o0 := K44.same (sA_a A52 (by decide +kernel)) (sF_a V53)
                    clear z38 z39 z40 z42
                    refine mv_aload_n d_TrustDeskModel_propose_128 rfl rfl ?_
                    obtain ⟨a61, q60, t_a61⟩ := tm_atR I48 h_o0 (k := 56) rfl
                    refine tr_getK q60 d_TrustDeskModel_propose_129 f_TrustDeskModel_128_13 ?_
                    refine mv_aload_n d_TrustDeskModel_propose_132 rfl rfl ?_
                    refine tr_getK (k := 53) (K49 _ 13 53 _ (K33 _ 13 53 _ q22)) d_TrustDeskModel_propose_133 f_TrustDeskModel_501_13 ?_
                    refine mv_iload_n d_TrustDeskModel_propose_136 rfl rfl ?_
                    refine tr_iastR (k := 56) I48 R50 (I48.up h_o0) q60 t_a61 (by decide) (by decide) (fun lo hi h => by cases h) (Or.inl (by decide)) d_TrustDeskModel_propose_137 (vp_in_iff.mpr (by have := R50.1 53 _ _ rfl; have := R50.1 49 _ _ rfl; have := R50.1 32 _ _ rfl; omega)) (fun M62 I63 K64 R65 E66 A67 V68 => ?_)
                    have z69 := (V68 53).trans z54
                    have z70 := (V68 49).trans z55
                    have z71 := (V68 32).trans z56
                    have z72 := (A67 54 (by decide) rfl ((rv M0 o0 53).toNat)).trans z57
                    have h73 : (rv M0 o0 53).toNat = v23.toNatClampNeg := by have := mz_nat9 (i := v23) (by have := R50.1 53 _ _ rfl; have := R50.1 49 _ _ rfl; have := R50.1 32 _ _ rfl; omega); have := R50.1 53 _ _ rfl; have := R50.1 49 _ _ rfl; have := R50.1 32 _ _ rfl; omega
                    have z74 : ra M62 o0 56 ((rv M0 o0 53).toNat) = x3.toInt := (E66 _).trans (if_pos h73)
                    have K75 : ∀ i : Nat, i < 880 → 0 ≤ ra M62 o0 8 i := (by have e9 := ((sA_a A67 (by decide +kernel)) : sA [8] _ _ _) 8 rfl; rw [e9]; exact K58)
                    have K76 : rX M62 o0 := K59.out A67 E66 V68 (Or.inr rfl) (by have := mz_nat9 (i := v23) (by have := R50.1 53 _ _ rfl; have := R50.1 49 _ _ rfl; have := R50.1 32 _ _ rfl; omega); have := R50.1 53 _ _ rfl; have := R50.1 49 _ _ rfl; have := R50.1 32 _ _ rfl; omega)
                    clear z54 z55 z56 z57
                    refine mv_aload_n d_TrustDeskModel_propose_138 rfl rfl ?_
                    obtain ⟨a78, q77, t_a78⟩ := tm_atR I63 h_o0 (k := 57) rfl
                    refine tr_getK q77 d_TrustDeskModel_propose_139 f_TrustDeskModel_131_13 ?_
                    refine mv_aload_n d_TrustDeskModel_propose_142 rfl rfl ?_
                    refine tr_getK (k := 53) (K64 _ 13 53 _ (K49 _ 13 53 _ (K33 _ 13 53 _ q22))) d_TrustDeskModel_propose_143 f_TrustDeskModel_501_13 ?_
                    refine mv_aload_n d_TrustDeskModel_propose_146 rfl rfl ?_
                    obtain ⟨v80, q79⟩ := tm_atI I63 h_o0 (k := 1) rfl
                    refine tr_getK q79 d_TrustDeskModel_propose_147 f_TrustDeskModel_164_13 ?_
                    have := R65.f (k := 1) q79 rfl
                    refine tr_iastR (k := 57) I63 R65 (I63.up h_o0) q77 t_a78 (by decide) (by decide) (fun lo hi h => by cases h) (Or.inl (by decide)) d_TrustDeskModel_propose_150 (vp_in_iff.mpr (by have := R65.1 53 _ _ rfl; have := R65.1 49 _ _ rfl; have := R65.1 32 _ _ rfl; omega)) (fun M81 I82 K83 R84 E85 A86 V87 => ?_)
                    have z88 := (V87 53).trans z69
                    have z89 := (V87 49).trans z70
                    have z90 := (V87 32).trans z71
                    have z91 := (A86 54 (by decide) rfl ((rv M0 o0 53).toNat)).trans z72
                    have z92 := (A86 56 (by decide) rfl ((rv M0 o0 53).toNat)).trans z74
                    have K93 : ∀ i : Nat, i < 880 → 0 ≤ ra M81 o0 8 i := (by have e9 := ((sA_a A86 (by decide +kernel)) : sA [8] _ _ _) 8 rfl; rw [e9]; exact K75)
                    have K94 : rX M81 o0 := K76.same (sA_a A86 (by decide +kernel)) (sF_a V87)
                    clear z69 z70 z71 z72 z74
                    refine mv_aload_n d_TrustDeskModel_propose_151 rfl rfl ?_
                    obtain ⟨a96, q95, t_a96⟩ := tm_atR I82 h_o0 (k := 58) rfl
                    refine tr_getK q95 d_TrustDeskModel_propose_152 f_TrustDeskModel_134_13 ?_
                    refine mv_aload_n d_TrustDeskModel_propose_155 rfl rfl ?_
                    refine tr_getK (k := 53) (K83 _ 13 53 _ (K64 _ 13 53 _ (K49 _ 13 53 _ (K33 _ 13 53 _ q22)))) d_TrustDeskModel_propose_156 f_TrustDeskModel_501_13 ?_
                    refine mv_aload_n d_TrustDeskModel_propose_159 rfl rfl ?_
                    refine tr_getK (k := 1) (K83 _ 13 1 _ q79) d_TrustDeskModel_propose_160 f_TrustDeskModel_164_13 ?_
                    refine mv_aload_n d_TrustDeskModel_propose_163 rfl rfl ?_
                    refine mv_aload_n d_TrustDeskModel_propose_164 rfl rfl ?_
                    refine tr_getK (k := 1) (K83 _ 13 1 _ q79) d_TrustDeskModel_propose_165 f_TrustDeskModel_164_13 ?_
                    refine mv_iconst (v := 2) d_TrustDeskModel_propose_168 (by decide) ?_
                    obtain ⟨_, b103, -⟩ := I82.1 _ _ h_o0
                    have : (2 : Int32).toInt = 2 := by decide
                    refine mv_callV (kc' := 0) (ks' := 0) (As := [.int v80, .int 2]) (st9 := [.int 2, .int v80, .ref o0, .int v80, .int v23, .ref a96]) d_TrustDeskModel_propose_169 lV_TrustDeskModel_396 b103 rfl (tc_TrustDeskModel_toldOn_x (d := d) (x9 := x9) (o0 := o0) (x1 := v80) (x2 := 2) h_o0 R84 K93 I82.start) rfl (Nat.le_of_ble_eq_true rfl) (Nat.le_of_ble_eq_true rfl) (Nat.le_of_ble_eq_true rfl) (hst := rfl) (fun b97r M98 n99 b97 => ?_)
                    obtain ⟨T100, J101, v104, rfl, R105, f106⟩ := b97
                    have I102 := I82.call J101 (tm_sub (by decide)) (Or.inl rfl)
                    have t107 := J101.up h_o0
                    have t108 := J101.up t_a96
                    have z109 := (rv_c I82 J101 (I82.up h_o0) (k := 53) rfl).trans z88
                    have z110 := (rv_c I82 J101 (I82.up h_o0) (k := 49) rfl).trans z89
                    have z111 := (rv_c I82 J101 (I82.up h_o0) (k := 32) rfl).trans z90
                    have z112 := (ra_call I82 J101 (I82.up h_o0) (k := 54) rfl rfl rfl ((rv M0 o0 53).toNat)).trans z91
                    have z113 := (ra_call I82 J101 (I82.up h_o0) (k := 56) rfl rfl rfl ((rv M0 o0 53).toNat)).trans z92
                    have K114 : ∀ i : Nat, i < 880 → 0 ≤ ra M98 o0 8 i := (by have e9 := ((sA_c I82 J101 (I82.up h_o0) (by decide +kernel)) : sA [8] _ _ _) 8 rfl; rw [e9]; exact K93)
                    have K115 : rX M98 o0 := K94.same (sA_c I82 J101 (I82.up h_o0) (by decide +kernel)) (sF_c I82 J101 (I82.up h_o0) (by decide +kernel))
                    clear z88 z89 z90 z91 z92
                    have q116 := J101.keep h_o0 (by decide) (K83 _ 13 0 _ (K64 _ 13 0 _ (K49 _ 13 0 _ (K33 _ 13 0 _ q5))))
                    have q117 := J101.keep h_o0 (by decide) (K83 _ 13 32 _ (K64 _ 13 32 _ (K49 _ 13 32 _ (K33 _ 13 32 _ q17))))
                    have q118 := J101.keep h_o0 (by decide) (K83 _ 13 53 _ (K64 _ 13 53 _ (K49 _ 13 53 _ (K33 _ 13 53 _ q22))))
                    have q119 := J101.keep h_o0 (by decide) (K83 _ 13 54 _ (K64 _ 13 54 _ (K49 _ 13 54 _ (K33 _ 13 54 _ q29))))
                    have t120 := J101.up t_a30
                    have q121 := J101.keep h_o0 (by decide) (K83 _ 13 55 _ (K64 _ 13 55 _ (K49 _ 13 55 _ q45)))
                    have t122 := J101.up t_a46
                    have q123 := J101.keep h_o0 (by decide) (K83 _ 13 56 _ (K64 _ 13 56 _ q60))
                    have t124 := J101.up t_a61
                    have q125 := J101.keep h_o0 (by decide) (K83 _ 13 57 _ q77)
                    have t126 := J101.up t_a78
                    have q127 := J101.keep h_o0 (by decide) (K83 _ 13 1 _ q79)
                    have q128 := J101.keep h_o0 (by decide) q95
                    refine mv_iadd d_TrustDeskModel_propose_172 ?_
                    refine tr_iastR (k := 58) I102 R105 (I102.up h_o0) q128 t108 (by decide) (by decide) (fun lo hi h => by cases h) (Or.inl (by decide)) d_TrustDeskModel_propose_173 (vp_in_iff.mpr (by have := R105.1 53 _ _ rfl; have := R105.1 49 _ _ rfl; have := R105.1 32 _ _ rfl; omega)) (fun M129 I130 K131 R132 E133 A134 V135 => ?_)
                    have z136 := (V135 53).trans z109
                    have z137 := (V135 49).trans z110
                    have z138 := (V135 32).trans z111
                    have z139 := (A134 54 (by decide) rfl ((rv M0 o0 53).toNat)).trans z112
                    have z140 := (A134 56 (by decide) rfl ((rv M0 o0 53).toNat)).trans z113
                    have K141 : ∀ i : Nat, i < 880 → 0 ≤ ra M129 o0 8 i := (by have e9 := ((sA_a A134 (by decide +kernel)) : sA [8] _ _ _) 8 rfl; rw [e9]; exact K114)
                    have K142 : rX M129 o0 := K115.same (sA_a A134 (by decide +kernel)) (sF_a V135)
                    clear z109 z110 z111 z112 z113
                    refine mv_aload_n d_TrustDeskModel_propose_174 rfl rfl ?_
                    obtain ⟨a144, q143, t_a144⟩ := tm_atR I130 t107 (k := 59) rfl
                    refine tr_getK q143 d_TrustDeskModel_propose_175 f_TrustDeskModel_137_13 ?_
                    refine mv_aload_n d_TrustDeskModel_propose_178 rfl rfl ?_
                    refine tr_getK (k := 53) (K131 _ 13 53 _ q118) d_TrustDeskModel_propose_179 f_TrustDeskModel_501_13 ?_
                    refine mv_iconst (v := 0) d_TrustDeskModel_propose_182 (by decide) ?_
                    refine tr_iastR (k := 59) I130 R132 (I130.up h_o0) q143 t_a144 (by decide) (by decide) (fun lo hi h => by cases h) (Or.inl (by decide)) d_TrustDeskModel_propose_183 (vp_in_iff.mpr (by have := R132.1 53 _ _ rfl; have := R132.1 49 _ _ rfl; have := R132.1 32 _ _ rfl; omega)) (fun M145 I146 K147 R148 E149 A150 V151 => ?_)
                    have z152 := (V151 53).trans z136
                    have z153 := (V151 49).trans z137
                    have z154 := (V151 32).trans z138
                    have z155 := (A150 54 (by decide) rfl ((rv M0 o0 53).toNat)).trans z139
                    have z156 := (A150 56 (by decide) rfl ((rv M0 o0 53).toNat)).trans z140
                    have K157 : ∀ i : Nat, i < 880 → 0 ≤ ra M145 o0 8 i := (by have e9 := ((sA_a A150 (by decide +kernel)) : sA [8] _ _ _) 8 rfl; rw [e9]; exact K141)
                    have K158 : rX M145 o0 := K142.same (sA_a A150 (by decide +kernel)) (sF_a V151)
                    clear z136 z137 z138 z139 z140
                    refine mv_aload_n d_TrustDeskModel_propose_184 rfl rfl ?_
                    refine mv_dup d_TrustDeskModel_propose_185 rfl ?_
                    refine tr_getK (k := 53) (K147 _ 13 53 _ (K131 _ 13 53 _ q118)) d_TrustDeskModel_propose_186 f_TrustDeskModel_501_13 ?_
                    refine mv_iconst (v := 1) d_TrustDeskModel_propose_189 (by decide) ?_
                    refine mv_iadd d_TrustDeskModel_propose_190 ?_
                    have b159 : (v23 + 1 : Int32).toInt = (v23.toInt + 1) := mz_add2 rfl (by decide) (by have := R148.1 53 _ _ rfl; have := R148.1 49 _ _ rfl; have := R148.1 32 _ _ rfl; omega) (by have := R148.1 53 _ _ rfl; have := R148.1 49 _ _ rfl; have := R148.1 32 _ _ rfl; omega)
                    refine tr_putR (k := 53) I146 R148 t107 rfl ⟨_, rfl⟩ (fun _ h => by cases h) rfl (fun lo hi h => by cases h; have := R148.1 53 _ _ rfl; have := R148.1 49 _ _ rfl; have := R148.1 32 _ _ rfl; exact ⟨by show (0 : Int) ≤ (v23 + 1).toInt; omega, by show (v23 + 1).toInt ≤ (40 : Int); omega⟩) (Or.inl (by decide)) d_TrustDeskModel_propose_191 p_TrustDeskModel_501_13 rfl rfl (fun M160 I161 q162 K163 R164 A165 V166 => ?_)
                    have z167 := (V166 49 (by decide)).trans z153
                    have z168 := (V166 32 (by decide)).trans z154
                    have z169 := (A165 54 (by decide) ((rv M0 o0 53).toNat)).trans z155
                    have z170 := (A165 56 (by decide) ((rv M0 o0 53).toNat)).trans z156
                    have z171 : rv M160 o0 53 = (v23 + 1).toInt := tm_rv q162
                    have K172 : ∀ i : Nat, i < 880 → 0 ≤ ra M160 o0 8 i := (by have e9 := ((sA_f A165 (by decide)) : sA [8] _ _ _) 8 rfl; rw [e9]; exact K157)
                    have K173 : rX M160 o0 := K158.inc (n := (rv M0 o0 53).toNat) A165 V166 (by omega) (by have := R148.1 53 _ _ rfl; have := R148.1 49 _ _ rfl; have := R148.1 32 _ _ rfl; omega) (by have := R148.1 53 _ _ rfl; have := R148.1 49 _ _ rfl; have := R148.1 32 _ _ rfl; omega) (fun _ => by omega) (fun _ => by omega) (fun _ => by omega)
                    clear z153 z154 z155 z156
                    refine mv_aload_n d_TrustDeskModel_propose_194 rfl rfl ?_
                    refine tr_getK (k := 53) q162 d_TrustDeskModel_propose_195 f_TrustDeskModel_501_13 ?_
                    refine mv_iconst (v := 1) d_TrustDeskModel_propose_198 (by decide) ?_
                    refine mv_isubv (v := v23) d_TrustDeskModel_propose_199 (Int32.add_sub_cancel _ _) ?_
                    exact mv_iret d_TrustDeskModel_propose_200 rfl (by first | rfl | decide) ⟨_, I161, _, rfl, R164, K173⟩
                · refine mv_iload_n d_TrustDeskModel_propose_78 rfl rfl ?_
                  refine mv_i2l (v := x3.toInt64) d_TrustDeskModel_propose_79 rfl ?_
                  refine mv_lconst (v := 1) d_TrustDeskModel_propose_80 (by decide) ?_
                  refine mv_ldc2 d_TrustDeskModel_propose_81 k_TrustDeskModel_421 ?_
                  refine mv_callS (kc1 := 0) (ks1 := 0) (kc' := 0) (ks' := 0) (As := [.long x3.toInt64, .long 1, .long 999]) (st9 := [.long 999, .long 1, .long x3.toInt64]) d_TrustDeskModel_propose_84 lS_TrustDeskModel_169 (mj_enter (by decide) (Nat.le_of_ble_eq_true rfl) ?_) rfl (Nat.le_of_ble_eq_true rfl) (Nat.le_of_ble_eq_true rfl) (Nat.le_of_ble_eq_true rfl) (hst := rfl) (fun _ _ _ h => h)
                  refine mv_lload_n d_TrustDeskModel_within_0 rfl rfl ?_
                  refine mv_lload_n d_TrustDeskModel_within_1 rfl rfl ?_
                  refine mv_lltZ (tgt := 17) (a := x3.toInt) (b := 1) d_TrustDeskModel_within_2 d_TrustDeskModel_within_3 (by decide) (mz_wide _) (by decide) (fun b174 => ?_) (fun b174 => ?_)
                  · refine mv_iconst (v := 0) d_TrustDeskModel_within_17 (by decide) ?_
                    refine mv_iret d_TrustDeskModel_within_18 rfl (by decide) ?_
                    refine mv_goto (tgt := 99) d_TrustDeskModel_propose_87 (by decide) ?_
                    refine mv_istore (lv' := [(4, .int 0), (0, .ref o0), (1, .int x1), (2, .int x2), (3, .int x3)]) d_TrustDeskModel_propose_99 (by decide) rfl ?_
                    refine mv_iload d_TrustDeskModel_propose_101 rfl ?_
                    refine mv_if_ne_f (tgt := 108) d_TrustDeskModel_propose_103 (by decide) (by decide) ?_
                    refine mv_iconst (v := (-1)) d_TrustDeskModel_propose_106 (by decide) ?_
                    exact mv_iret d_TrustDeskModel_propose_107 rfl (by first | rfl | decide) ⟨_, I4, _, rfl, R7, K14⟩
                  · refine mv_lload_n d_TrustDeskModel_within_6 rfl rfl ?_
                    refine mv_lload d_TrustDeskModel_within_7 rfl ?_
                    refine mv_lgtZ (tgt := 17) (a := x3.toInt) (b := 999) d_TrustDeskModel_within_9 d_TrustDeskModel_within_10 (by decide) (mz_wide _) (by decide) (fun b175 => ?_) (fun b175 => ?_)
                    · refine mv_iconst (v := 0) d_TrustDeskModel_within_17 (by decide) ?_
                      refine mv_iret d_TrustDeskModel_within_18 rfl (by decide) ?_
                      refine mv_goto (tgt := 99) d_TrustDeskModel_propose_87 (by decide) ?_
                      refine mv_istore (lv' := [(4, .int 0), (0, .ref o0), (1, .int x1), (2, .int x2), (3, .int x3)]) d_TrustDeskModel_propose_99 (by decide) rfl ?_
                      refine mv_iload d_TrustDeskModel_propose_101 rfl ?_
                      refine mv_if_ne_f (tgt := 108) d_TrustDeskModel_propose_103 (by decide) (by decide) ?_
                      refine mv_iconst (v := (-1)) d_TrustDeskModel_propose_106 (by decide) ?_
                      exact mv_iret d_TrustDeskModel_propose_107 rfl (by first | rfl | decide) ⟨_, I4, _, rfl, R7, K14⟩
                    · refine mv_iconst (v := 1) d_TrustDeskModel_within_13 (by decide) ?_
                      refine mv_goto (tgt := 18) d_TrustDeskModel_within_14 (by decide) ?_
                      refine mv_iret d_TrustDeskModel_within_18 rfl (by decide) ?_
                      refine mv_goto (tgt := 99) d_TrustDeskModel_propose_87 (by decide) ?_
                      refine mv_istore (lv' := [(4, .int 1), (0, .ref o0), (1, .int x1), (2, .int x2), (3, .int x3)]) d_TrustDeskModel_propose_99 (by decide) rfl ?_
                      refine mv_iload d_TrustDeskModel_propose_101 rfl ?_
                      refine mv_if_ne_t (tgt := 108) d_TrustDeskModel_propose_103 (by decide) (by decide) ?_
                      refine mv_aload_n d_TrustDeskModel_propose_108 rfl rfl ?_
                      obtain ⟨a177, q176, t_a177⟩ := tm_atR I4 h_o0 (k := 54) rfl
                      refine tr_getK q176 d_TrustDeskModel_propose_109 f_TrustDeskModel_122_13 ?_
                      refine mv_aload_n d_TrustDeskModel_propose_112 rfl rfl ?_
                      refine tr_getK (k := 53) q22 d_TrustDeskModel_propose_113 f_TrustDeskModel_501_13 ?_
                      refine mv_iload_n d_TrustDeskModel_propose_116 rfl rfl ?_
                      refine tr_iastR (k := 54) I4 R7 (I4.up h_o0) q176 t_a177 (by decide) (by decide) (fun lo hi h => by cases h; have := R7.1 53 _ _ rfl; have := R7.1 49 _ _ rfl; have := R7.1 32 _ _ rfl; exact ⟨by show (0 : Int) ≤ x1.toInt; omega, by show x1.toInt ≤ (3 : Int); omega⟩) (Or.inl (by decide)) d_TrustDeskModel_propose_117 (vp_in_iff.mpr (by have := R7.1 53 _ _ rfl; have := R7.1 49 _ _ rfl; have := R7.1 32 _ _ rfl; omega)) (fun M178 I179 K180 R181 E182 A183 V184 => ?_)
                      have z185 := (V184 53).trans z10
                      have z186 := (V184 49).trans z11
                      have z187 := (V184 32).trans z12
                      have h188 : (rv M0 o0 53).toNat = v23.toNatClampNeg := by have := mz_nat9 (i := v23) (by have := R7.1 53 _ _ rfl; have := R7.1 49 _ _ rfl; have := R7.1 32 _ _ rfl; omega); have := R7.1 53 _ _ rfl; have := R7.1 49 _ _ rfl; have := R7.1 32 _ _ rfl; omega
                      have z189 : ra M178 o0 54 ((rv M0 o0 53).toNat) = x1.toInt := (E182 _).trans (if_pos h188)
                      have K190 : ∀ i : Nat, i < 880 → 0 ≤ ra M178 o0 8 i := (by have e9 := ((sA_a A183 (by decide +kernel)) : sA [8] _ _ _) 8 rfl; rw [e9]; exact K13)
                      have K191 : rX M178 o0 := K14.out A183 E182 V184 (Or.inl rfl) (by have := mz_nat9 (i := v23) (by have := R7.1 53 _ _ rfl; have := R7.1 49 _ _ rfl; have := R7.1 32 _ _ rfl; omega); have := R7.1 53 _ _ rfl; have := R7.1 49 _ _ rfl; have := R7.1 32 _ _ rfl; omega)
                      clear z10 z11 z12
                      refine mv_aload_n d_TrustDeskModel_propose_118 rfl rfl ?_
                      obtain ⟨a193, q192, t_a193⟩ := tm_atR I179 h_o0 (k := 55) rfl
                      refine tr_getK q192 d_TrustDeskModel_propose_119 f_TrustDeskModel_125_13 ?_
                      refine mv_aload_n d_TrustDeskModel_propose_122 rfl rfl ?_
                      refine tr_getK (k := 53) (K180 _ 13 53 _ q22) d_TrustDeskModel_propose_123 f_TrustDeskModel_501_13 ?_
                      refine mv_iload_n d_TrustDeskModel_propose_126 rfl rfl ?_
                      refine tr_iastR (k := 55) I179 R181 (I179.up h_o0) q192 t_a193 (by decide) (by decide) (fun lo hi h => by cases h; have := R181.1 53 _ _ rfl; have := R181.1 49 _ _ rfl; have := R181.1 32 _ _ rfl; exact ⟨by show (0 : Int) ≤ x2.toInt; omega, by show x2.toInt ≤ (11 : Int); omega⟩) (Or.inl (by decide)) d_TrustDeskModel_propose_127 (vp_in_iff.mpr (by have := R181.1 53 _ _ rfl; have := R181.1 49 _ _ rfl; have := R181.1 32 _ _ rfl; omega)) (fun M194 I195 K196 R197 E198 A199 V200 => ?_)
                      have z201 := (V200 53).trans z185
                      have z202 := (V200 49).trans z186
                      have z203 := (V200 32).trans z187
                      have z204 := (A199 54 (by decide) rfl ((rv M0 o0 53).toNat)).trans z189
                      have K205 : ∀ i : Nat, i < 880 → 0 ≤ ra M194 o0 8 i := (by have e9 := ((sA_a A199 (by decide +kernel)) : sA [8] _ _ _) 8 rfl; rw [e9]; exact K190)
                      have K206 : rX M194 o0 := K191.same (sA_a A199 (by decide +kernel)) (sF_a V200)
                      clear z185 z186 z187 z189
                      refine mv_aload_n d_TrustDeskModel_propose_128 rfl rfl ?_
                      obtain ⟨a208, q207, t_a208⟩ := tm_atR I195 h_o0 (k := 56) rfl
                      refine tr_getK q207 d_TrustDeskModel_propose_129 f_TrustDeskModel_128_13 ?_
                      refine mv_aload_n d_TrustDeskModel_propose_132 rfl rfl ?_
                      refine tr_getK (k := 53) (K196 _ 13 53 _ (K180 _ 13 53 _ q22)) d_TrustDeskModel_propose_133 f_TrustDeskModel_501_13 ?_
                      refine mv_iload_n d_TrustDeskModel_propose_136 rfl rfl ?_
                      refine tr_iastR (k := 56) I195 R197 (I195.up h_o0) q207 t_a208 (by decide) (by decide) (fun lo hi h => by cases h) (Or.inl (by decide)) d_TrustDeskModel_propose_137 (vp_in_iff.mpr (by have := R197.1 53 _ _ rfl; have := R197.1 49 _ _ rfl; have := R197.1 32 _ _ rfl; omega)) (fun M209 I210 K211 R212 E213 A214 V215 => ?_)
                      have z216 := (V215 53).trans z201
                      have z217 := (V215 49).trans z202
                      have z218 := (V215 32).trans z203
                      have z219 := (A214 54 (by decide) rfl ((rv M0 o0 53).toNat)).trans z204
                      have h220 : (rv M0 o0 53).toNat = v23.toNatClampNeg := by have := mz_nat9 (i := v23) (by have := R197.1 53 _ _ rfl; have := R197.1 49 _ _ rfl; have := R197.1 32 _ _ rfl; omega); have := R197.1 53 _ _ rfl; have := R197.1 49 _ _ rfl; have := R197.1 32 _ _ rfl; omega
                      have z221 : ra M209 o0 56 ((rv M0 o0 53).toNat) = x3.toInt := (E213 _).trans (if_pos h220)
                      have K222 : ∀ i : Nat, i < 880 → 0 ≤ ra M209 o0 8 i := (by have e9 := ((sA_a A214 (by decide +kernel)) : sA [8] _ _ _) 8 rfl; rw [e9]; exact K205)
                      have K223 : rX M209 o0 := K206.out A214 E213 V215 (Or.inr rfl) (by have := mz_nat9 (i := v23) (by have := R197.1 53 _ _ rfl; have := R197.1 49 _ _ rfl; have := R197.1 32 _ _ rfl; omega); have := R197.1 53 _ _ rfl; have := R197.1 49 _ _ rfl; have := R197.1 32 _ _ rfl; omega)
                      clear z201 z202 z203 z204
                      refine mv_aload_n d_TrustDeskModel_propose_138 rfl rfl ?_
                      obtain ⟨a225, q224, t_a225⟩ := tm_atR I210 h_o0 (k := 57) rfl
                      refine tr_getK q224 d_TrustDeskModel_propose_139 f_TrustDeskModel_131_13 ?_
                      refine mv_aload_n d_TrustDeskModel_propose_142 rfl rfl ?_
                      refine tr_getK (k := 53) (K211 _ 13 53 _ (K196 _ 13 53 _ (K180 _ 13 53 _ q22))) d_TrustDeskModel_propose_143 f_TrustDeskModel_501_13 ?_
                      refine mv_aload_n d_TrustDeskModel_propose_146 rfl rfl ?_
                      obtain ⟨v227, q226⟩ := tm_atI I210 h_o0 (k := 1) rfl
                      refine tr_getK q226 d_TrustDeskModel_propose_147 f_TrustDeskModel_164_13 ?_
                      have := R212.f (k := 1) q226 rfl
                      refine tr_iastR (k := 57) I210 R212 (I210.up h_o0) q224 t_a225 (by decide) (by decide) (fun lo hi h => by cases h) (Or.inl (by decide)) d_TrustDeskModel_propose_150 (vp_in_iff.mpr (by have := R212.1 53 _ _ rfl; have := R212.1 49 _ _ rfl; have := R212.1 32 _ _ rfl; omega)) (fun M228 I229 K230 R231 E232 A233 V234 => ?_)
                      have z235 := (V234 53).trans z216
                      have z236 := (V234 49).trans z217
                      have z237 := (V234 32).trans z218
                      have z238 := (A233 54 (by decide) rfl ((rv M0 o0 53).toNat)).trans z219
                      have z239 := (A233 56 (by decide) rfl ((rv M0 o0 53).toNat)).trans z221
                      have K240 : ∀ i : Nat, i < 880 → 0 ≤ ra M228 o0 8 i := (by have e9 := ((sA_a A233 (by decide +kernel)) : sA [8] _ _ _) 8 rfl; rw [e9]; exact K222)
                      have K241 : rX M228 o0 := K223.same (sA_a A233 (by decide +kernel)) (sF_a V234)
                      clear z216 z217 z218 z219 z221
                      refine mv_aload_n d_TrustDeskModel_propose_151 rfl rfl ?_
                      obtain ⟨a243, q242, t_a243⟩ := tm_atR I229 h_o0 (k := 58) rfl
                      refine tr_getK q242 d_TrustDeskModel_propose_152 f_TrustDeskModel_134_13 ?_
                      refine mv_aload_n d_TrustDeskModel_propose_155 rfl rfl ?_
                      refine tr_getK (k := 53) (K230 _ 13 53 _ (K211 _ 13 53 _ (K196 _ 13 53 _ (K180 _ 13 53 _ q22)))) d_TrustDeskModel_propose_156 f_TrustDeskModel_501_13 ?_
                      refine mv_aload_n d_TrustDeskModel_propose_159 rfl rfl ?_
                      refine tr_getK (k := 1) (K230 _ 13 1 _ q226) d_TrustDeskModel_propose_160 f_TrustDeskModel_164_13 ?_
                      refine mv_aload_n d_TrustDeskModel_propose_163 rfl rfl ?_
                      refine mv_aload_n d_TrustDeskModel_propose_164 rfl rfl ?_
                      refine tr_getK (k := 1) (K230 _ 13 1 _ q226) d_TrustDeskModel_propose_165 f_TrustDeskModel_164_13 ?_
                      refine mv_iconst (v := 2) d_TrustDeskModel_propose_168 (by decide) ?_
                      obtain ⟨_, b250, -⟩ := I229.1 _ _ h_o0
                      have : (2 : Int32).toInt = 2 := by decide
                      refine mv_callV (kc' := 0) (ks' := 0) (As := [.int v227, .int 2]) (st9 := [.int 2, .int v227, .ref o0, .int v227, .int v23, .ref a243]) d_TrustDeskModel_propose_169 lV_TrustDeskModel_396 b250 rfl (tc_TrustDeskModel_toldOn_x (d := d) (x9 := x9) (o0 := o0) (x1 := v227) (x2 := 2) h_o0 R231 K240 I229.start) rfl (Nat.le_of_ble_eq_true rfl) (Nat.le_of_ble_eq_true rfl) (Nat.le_of_ble_eq_true rfl) (hst := rfl) (fun b244r M245 n246 b244 => ?_)
                      obtain ⟨T247, J248, v251, rfl, R252, f253⟩ := b244
                      have I249 := I229.call J248 (tm_sub (by decide)) (Or.inl rfl)
                      have t254 := J248.up h_o0
                      have t255 := J248.up t_a243
                      have z256 := (rv_c I229 J248 (I229.up h_o0) (k := 53) rfl).trans z235
                      have z257 := (rv_c I229 J248 (I229.up h_o0) (k := 49) rfl).trans z236
                      have z258 := (rv_c I229 J248 (I229.up h_o0) (k := 32) rfl).trans z237
                      have z259 := (ra_call I229 J248 (I229.up h_o0) (k := 54) rfl rfl rfl ((rv M0 o0 53).toNat)).trans z238
                      have z260 := (ra_call I229 J248 (I229.up h_o0) (k := 56) rfl rfl rfl ((rv M0 o0 53).toNat)).trans z239
                      have K261 : ∀ i : Nat, i < 880 → 0 ≤ ra M245 o0 8 i := (by have e9 := ((sA_c I229 J248 (I229.up h_o0) (by decide +kernel)) : sA [8] _ _ _) 8 rfl; rw [e9]; exact K240)
                      have K262 : rX M245 o0 := K241.same (sA_c I229 J248 (I229.up h_o0) (by decide +kernel)) (sF_c I229 J248 (I229.up h_o0) (by decide +kernel))
                      clear z235 z236 z237 z238 z239
                      have q263 := J248.keep h_o0 (by decide) (K230 _ 13 0 _ (K211 _ 13 0 _ (K196 _ 13 0 _ (K180 _ 13 0 _ q5))))
                      have q264 := J248.keep h_o0 (by decide) (K230 _ 13 32 _ (K211 _ 13 32 _ (K196 _ 13 32 _ (K180 _ 13 32 _ q17))))
                      have q265 := J248.keep h_o0 (by decide) (K230 _ 13 53 _ (K211 _ 13 53 _ (K196 _ 13 53 _ (K180 _ 13 53 _ q22))))
                      have q266 := J248.keep h_o0 (by decide) (K230 _ 13 54 _ (K211 _ 13 54 _ (K196 _ 13 54 _ (K180 _ 13 54 _ q176))))
                      have t267 := J248.up t_a177
                      have q268 := J248.keep h_o0 (by decide) (K230 _ 13 55 _ (K211 _ 13 55 _ (K196 _ 13 55 _ q192)))
                      have t269 := J248.up t_a193
                      have q270 := J248.keep h_o0 (by decide) (K230 _ 13 56 _ (K211 _ 13 56 _ q207))
                      have t271 := J248.up t_a208
                      have q272 := J248.keep h_o0 (by decide) (K230 _ 13 57 _ q224)
                      have t273 := J248.up t_a225
                      have q274 := J248.keep h_o0 (by decide) (K230 _ 13 1 _ q226)
                      have q275 := J248.keep h_o0 (by decide) q242
                      refine mv_iadd d_TrustDeskModel_propose_172 ?_
                      refine tr_iastR (k := 58) I249 R252 (I249.up h_o0) q275 t255 (by decide) (by decide) (fun lo hi h => by cases h) (Or.inl (by decide)) d_TrustDeskModel_propose_173 (vp_in_iff.mpr (by have := R252.1 53 _ _ rfl; have := R252.1 49 _ _ rfl; have := R252.1 32 _ _ rfl; omega)) (fun M276 I277 K278 R279 E280 A281 V282 => ?_)
                      have z283 := (V282 53).trans z256
                      have z284 := (V282 49).trans z257
                      have z285 := (V282 32).trans z258
                      have z286 := (A281 54 (by decide) rfl ((rv M0 o0 53).toNat)).trans z259
                      have z287 := (A281 56 (by decide) rfl ((rv M0 o0 53).toNat)).trans z260
                      have K288 : ∀ i : Nat, i < 880 → 0 ≤ ra M276 o0 8 i := (by have e9 := ((sA_a A281 (by decide +kernel)) : sA [8] _ _ _) 8 rfl; rw [e9]; exact K261)
                      have K289 : rX M276 o0 := K262.same (sA_a A281 (by decide +kernel)) (sF_a V282)
                      clear z256 z257 z258 z259 z260
                      refine mv_aload_n d_TrustDeskModel_propose_174 rfl rfl ?_
                      obtain ⟨a291, q290, t_a291⟩ := tm_atR I277 t254 (k := 59) rfl
                      refine tr_getK q290 d_TrustDeskModel_propose_175 f_TrustDeskModel_137_13 ?_
                      refine mv_aload_n d_TrustDeskModel_propose_178 rfl rfl ?_
                      refine tr_getK (k := 53) (K278 _ 13 53 _ q265) d_TrustDeskModel_propose_179 f_TrustDeskModel_501_13 ?_
                      refine mv_iconst (v := 0) d_TrustDeskModel_propose_182 (by decide) ?_
                      refine tr_iastR (k := 59) I277 R279 (I277.up h_o0) q290 t_a291 (by decide) (by decide) (fun lo hi h => by cases h) (Or.inl (by decide)) d_TrustDeskModel_propose_183 (vp_in_iff.mpr (by have := R279.1 53 _ _ rfl; have := R279.1 49 _ _ rfl; have := R279.1 32 _ _ rfl; omega)) (fun M292 I293 K294 R295 E296 A297 V298 => ?_)
                      have z299 := (V298 53).trans z283
                      have z300 := (V298 49).trans z284
                      have z301 := (V298 32).trans z285
                      have z302 := (A297 54 (by decide) rfl ((rv M0 o0 53).toNat)).trans z286
                      have z303 := (A297 56 (by decide) rfl ((rv M0 o0 53).toNat)).trans z287
                      have K304 : ∀ i : Nat, i < 880 → 0 ≤ ra M292 o0 8 i := (by have e9 := ((sA_a A297 (by decide +kernel)) : sA [8] _ _ _) 8 rfl; rw [e9]; exact K288)
                      have K305 : rX M292 o0 := K289.same (sA_a A297 (by decide +kernel)) (sF_a V298)
                      clear z283 z284 z285 z286 z287
                      refine mv_aload_n d_TrustDeskModel_propose_184 rfl rfl ?_
                      refine mv_dup d_TrustDeskModel_propose_185 rfl ?_
                      refine tr_getK (k := 53) (K294 _ 13 53 _ (K278 _ 13 53 _ q265)) d_TrustDeskModel_propose_186 f_TrustDeskModel_501_13 ?_
                      refine mv_iconst (v := 1) d_TrustDeskModel_propose_189 (by decide) ?_
                      refine mv_iadd d_TrustDeskModel_propose_190 ?_
                      have b306 : (v23 + 1 : Int32).toInt = (v23.toInt + 1) := mz_add2 rfl (by decide) (by have := R295.1 53 _ _ rfl; have := R295.1 49 _ _ rfl; have := R295.1 32 _ _ rfl; omega) (by have := R295.1 53 _ _ rfl; have := R295.1 49 _ _ rfl; have := R295.1 32 _ _ rfl; omega)
                      refine tr_putR (k := 53) I293 R295 t254 rfl ⟨_, rfl⟩ (fun _ h => by cases h) rfl (fun lo hi h => by cases h; have := R295.1 53 _ _ rfl; have := R295.1 49 _ _ rfl; have := R295.1 32 _ _ rfl; exact ⟨by show (0 : Int) ≤ (v23 + 1).toInt; omega, by show (v23 + 1).toInt ≤ (40 : Int); omega⟩) (Or.inl (by decide)) d_TrustDeskModel_propose_191 p_TrustDeskModel_501_13 rfl rfl (fun M307 I308 q309 K310 R311 A312 V313 => ?_)
                      have z314 := (V313 49 (by decide)).trans z300
                      have z315 := (V313 32 (by decide)).trans z301
                      have z316 := (A312 54 (by decide) ((rv M0 o0 53).toNat)).trans z302
                      have z317 := (A312 56 (by decide) ((rv M0 o0 53).toNat)).trans z303
                      have z318 : rv M307 o0 53 = (v23 + 1).toInt := tm_rv q309
                      have K319 : ∀ i : Nat, i < 880 → 0 ≤ ra M307 o0 8 i := (by have e9 := ((sA_f A312 (by decide)) : sA [8] _ _ _) 8 rfl; rw [e9]; exact K304)
                      have K320 : rX M307 o0 := K305.inc (n := (rv M0 o0 53).toNat) A312 V313 (by omega) (by have := R295.1 53 _ _ rfl; have := R295.1 49 _ _ rfl; have := R295.1 32 _ _ rfl; omega) (by have := R295.1 53 _ _ rfl; have := R295.1 49 _ _ rfl; have := R295.1 32 _ _ rfl; omega) (fun _ => by omega) (fun _ => by omega) (fun _ => by omega)
                      clear z300 z301 z302 z303
                      refine mv_aload_n d_TrustDeskModel_propose_194 rfl rfl ?_
                      refine tr_getK (k := 53) q309 d_TrustDeskModel_propose_195 f_TrustDeskModel_501_13 ?_
                      refine mv_iconst (v := 1) d_TrustDeskModel_propose_198 (by decide) ?_
                      refine mv_isubv (v := v23) d_TrustDeskModel_propose_199 (Int32.add_sub_cancel _ _) ?_
                      exact mv_iret d_TrustDeskModel_propose_200 rfl (by first | rfl | decide) ⟨_, I308, _, rfl, R311, K320⟩
              · refine mv_aload_n d_TrustDeskModel_propose_65 rfl rfl ?_
                refine mv_iload_n d_TrustDeskModel_propose_66 rfl rfl ?_
                obtain ⟨_, b321, -⟩ := I4.1 _ _ h_o0
                refine mv_callV (kc1 := 0) (ks1 := 0) (kc' := 0) (ks' := 0) (As := [.int x3]) (st9 := [.int x3, .ref o0]) d_TrustDeskModel_propose_67 lV_TrustDeskModel_418 b321 rfl (mj_enter (by decide) (Nat.le_of_ble_eq_true rfl) ?_) rfl (Nat.le_of_ble_eq_true rfl) (Nat.le_of_ble_eq_true rfl) (Nat.le_of_ble_eq_true rfl) (hst := rfl) (fun _ _ _ h => h)
                refine mv_iload_n d_TrustDeskModel_isFund_0 rfl rfl ?_
                have := mz_hi x3
                refine mv_if_ltZ (tgt := 16) (a := x3.toInt) d_TrustDeskModel_isFund_1 (by decide) rfl (fun b322 => ?_) (fun b322 => ?_)
                · refine mv_iconst (v := 0) d_TrustDeskModel_isFund_16 (by decide) ?_
                  refine mv_iret d_TrustDeskModel_isFund_17 rfl (by decide) ?_
                  refine mv_goto (tgt := 99) d_TrustDeskModel_propose_70 (by decide) ?_
                  refine mv_istore (lv' := [(4, .int 0), (0, .ref o0), (1, .int x1), (2, .int x2), (3, .int x3)]) d_TrustDeskModel_propose_99 (by decide) rfl ?_
                  refine mv_iload d_TrustDeskModel_propose_101 rfl ?_
                  refine mv_if_ne_f (tgt := 108) d_TrustDeskModel_propose_103 (by decide) (by decide) ?_
                  refine mv_iconst (v := (-1)) d_TrustDeskModel_propose_106 (by decide) ?_
                  exact mv_iret d_TrustDeskModel_propose_107 rfl (by first | rfl | decide) ⟨_, I4, _, rfl, R7, K14⟩
                · refine mv_iload_n d_TrustDeskModel_isFund_4 rfl rfl ?_
                  refine mv_aload_n d_TrustDeskModel_isFund_5 rfl rfl ?_
                  refine tr_getK (k := 32) q17 d_TrustDeskModel_isFund_6 f_TrustDeskModel_415_13 ?_
                  have := mz_hi x3
                  have := mz_hi v18
                  refine mv_icmp_geZ (tgt := 16) (a := x3.toInt) (b := v18.toInt) d_TrustDeskModel_isFund_9 (by decide) rfl rfl (fun b323 => ?_) (fun b323 => ?_)
                  · refine mv_iconst (v := 0) d_TrustDeskModel_isFund_16 (by decide) ?_
                    refine mv_iret d_TrustDeskModel_isFund_17 rfl (by decide) ?_
                    refine mv_goto (tgt := 99) d_TrustDeskModel_propose_70 (by decide) ?_
                    refine mv_istore (lv' := [(4, .int 0), (0, .ref o0), (1, .int x1), (2, .int x2), (3, .int x3)]) d_TrustDeskModel_propose_99 (by decide) rfl ?_
                    refine mv_iload d_TrustDeskModel_propose_101 rfl ?_
                    refine mv_if_ne_f (tgt := 108) d_TrustDeskModel_propose_103 (by decide) (by decide) ?_
                    refine mv_iconst (v := (-1)) d_TrustDeskModel_propose_106 (by decide) ?_
                    exact mv_iret d_TrustDeskModel_propose_107 rfl (by first | rfl | decide) ⟨_, I4, _, rfl, R7, K14⟩
                  · refine mv_iconst (v := 1) d_TrustDeskModel_isFund_12 (by decide) ?_
                    refine mv_goto (tgt := 17) d_TrustDeskModel_isFund_13 (by decide) ?_
                    refine mv_iret d_TrustDeskModel_isFund_17 rfl (by decide) ?_
                    refine mv_goto (tgt := 99) d_TrustDeskModel_propose_70 (by decide) ?_
                    refine mv_istore (lv' := [(4, .int 1), (0, .ref o0), (1, .int x1), (2, .int x2), (3, .int x3)]) d_TrustDeskModel_propose_99 (by decide) rfl ?_
                    refine mv_iload d_TrustDeskModel_propose_101 rfl ?_
                    refine mv_if_ne_t (tgt := 108) d_TrustDeskModel_propose_103 (by decide) (by decide) ?_
                    refine mv_aload_n d_TrustDeskModel_propose_108 rfl rfl ?_
                    obtain ⟨a325, q324, t_a325⟩ := tm_atR I4 h_o0 (k := 54) rfl
                    refine tr_getK q324 d_TrustDeskModel_propose_109 f_TrustDeskModel_122_13 ?_
                    refine mv_aload_n d_TrustDeskModel_propose_112 rfl rfl ?_
                    refine tr_getK (k := 53) q22 d_TrustDeskModel_propose_113 f_TrustDeskModel_501_13 ?_
                    refine mv_iload_n d_TrustDeskModel_propose_116 rfl rfl ?_
                    refine tr_iastR (k := 54) I4 R7 (I4.up h_o0) q324 t_a325 (by decide) (by decide) (fun lo hi h => by cases h; have := R7.1 53 _ _ rfl; have := R7.1 49 _ _ rfl; have := R7.1 32 _ _ rfl; exact ⟨by show (0 : Int) ≤ x1.toInt; omega, by show x1.toInt ≤ (3 : Int); omega⟩) (Or.inl (by decide)) d_TrustDeskModel_propose_117 (vp_in_iff.mpr (by have := R7.1 53 _ _ rfl; have := R7.1 49 _ _ rfl; have := R7.1 32 _ _ rfl; omega)) (fun M326 I327 K328 R329 E330 A331 V332 => ?_)
                    have z333 := (V332 53).trans z10
                    have z334 := (V332 49).trans z11
                    have z335 := (V332 32).trans z12
                    have h336 : (rv M0 o0 53).toNat = v23.toNatClampNeg := by have := mz_nat9 (i := v23) (by have := R7.1 53 _ _ rfl; have := R7.1 49 _ _ rfl; have := R7.1 32 _ _ rfl; omega); have := R7.1 53 _ _ rfl; have := R7.1 49 _ _ rfl; have := R7.1 32 _ _ rfl; omega
                    have z337 : ra M326 o0 54 ((rv M0 o0 53).toNat) = x1.toInt := (E330 _).trans (if_pos h336)
                    have K338 : ∀ i : Nat, i < 880 → 0 ≤ ra M326 o0 8 i := (by have e9 := ((sA_a A331 (by decide +kernel)) : sA [8] _ _ _) 8 rfl; rw [e9]; exact K13)
                    have K339 : rX M326 o0 := K14.out A331 E330 V332 (Or.inl rfl) (by have := mz_nat9 (i := v23) (by have := R7.1 53 _ _ rfl; have := R7.1 49 _ _ rfl; have := R7.1 32 _ _ rfl; omega); have := R7.1 53 _ _ rfl; have := R7.1 49 _ _ rfl; have := R7.1 32 _ _ rfl; omega)
                    clear z10 z11 z12
                    refine mv_aload_n d_TrustDeskModel_propose_118 rfl rfl ?_
                    obtain ⟨a341, q340, t_a341⟩ := tm_atR I327 h_o0 (k := 55) rfl
                    refine tr_getK q340 d_TrustDeskModel_propose_119 f_TrustDeskModel_125_13 ?_
                    refine mv_aload_n d_TrustDeskModel_propose_122 rfl rfl ?_
                    refine tr_getK (k := 53) (K328 _ 13 53 _ q22) d_TrustDeskModel_propose_123 f_TrustDeskModel_501_13 ?_
                    refine mv_iload_n d_TrustDeskModel_propose_126 rfl rfl ?_
                    refine tr_iastR (k := 55) I327 R329 (I327.up h_o0) q340 t_a341 (by decide) (by decide) (fun lo hi h => by cases h; have := R329.1 53 _ _ rfl; have := R329.1 49 _ _ rfl; have := R329.1 32 _ _ rfl; exact ⟨by show (0 : Int) ≤ x2.toInt; omega, by show x2.toInt ≤ (11 : Int); omega⟩) (Or.inl (by decide)) d_TrustDeskModel_propose_127 (vp_in_iff.mpr (by have := R329.1 53 _ _ rfl; have := R329.1 49 _ _ rfl; have := R329.1 32 _ _ rfl; omega)) (fun M342 I343 K344 R345 E346 A347 V348 => ?_)
                    have z349 := (V348 53).trans z333
                    have z350 := (V348 49).trans z334
                    have z351 := (V348 32).trans z335
                    have z352 := (A347 54 (by decide) rfl ((rv M0 o0 53).toNat)).trans z337
                    have K353 : ∀ i : Nat, i < 880 → 0 ≤ ra M342 o0 8 i := (by have e9 := ((sA_a A347 (by decide +kernel)) : sA [8] _ _ _) 8 rfl; rw [e9]; exact K338)
                    have K354 : rX M342 o0 := K339.same (sA_a A347 (by decide +kernel)) (sF_a V348)
                    clear z333 z334 z335 z337
                    refine mv_aload_n d_TrustDeskModel_propose_128 rfl rfl ?_
                    obtain ⟨a356, q355, t_a356⟩ := tm_atR I343 h_o0 (k := 56) rfl
                    refine tr_getK q355 d_TrustDeskModel_propose_129 f_TrustDeskModel_128_13 ?_
                    refine mv_aload_n d_TrustDeskModel_propose_132 rfl rfl ?_
                    refine tr_getK (k := 53) (K344 _ 13 53 _ (K328 _ 13 53 _ q22)) d_TrustDeskModel_propose_133 f_TrustDeskModel_501_13 ?_
                    refine mv_iload_n d_TrustDeskModel_propose_136 rfl rfl ?_
                    refine tr_iastR (k := 56) I343 R345 (I343.up h_o0) q355 t_a356 (by decide) (by decide) (fun lo hi h => by cases h) (Or.inl (by decide)) d_TrustDeskModel_propose_137 (vp_in_iff.mpr (by have := R345.1 53 _ _ rfl; have := R345.1 49 _ _ rfl; have := R345.1 32 _ _ rfl; omega)) (fun M357 I358 K359 R360 E361 A362 V363 => ?_)
                    have z364 := (V363 53).trans z349
                    have z365 := (V363 49).trans z350
                    have z366 := (V363 32).trans z351
                    have z367 := (A362 54 (by decide) rfl ((rv M0 o0 53).toNat)).trans z352
                    have h368 : (rv M0 o0 53).toNat = v23.toNatClampNeg := by have := mz_nat9 (i := v23) (by have := R345.1 53 _ _ rfl; have := R345.1 49 _ _ rfl; have := R345.1 32 _ _ rfl; omega); have := R345.1 53 _ _ rfl; have := R345.1 49 _ _ rfl; have := R345.1 32 _ _ rfl; omega
                    have z369 : ra M357 o0 56 ((rv M0 o0 53).toNat) = x3.toInt := (E361 _).trans (if_pos h368)
                    have K370 : ∀ i : Nat, i < 880 → 0 ≤ ra M357 o0 8 i := (by have e9 := ((sA_a A362 (by decide +kernel)) : sA [8] _ _ _) 8 rfl; rw [e9]; exact K353)
                    have K371 : rX M357 o0 := K354.out A362 E361 V363 (Or.inr rfl) (by have := mz_nat9 (i := v23) (by have := R345.1 53 _ _ rfl; have := R345.1 49 _ _ rfl; have := R345.1 32 _ _ rfl; omega); have := R345.1 53 _ _ rfl; have := R345.1 49 _ _ rfl; have := R345.1 32 _ _ rfl; omega)
                    clear z349 z350 z351 z352
                    refine mv_aload_n d_TrustDeskModel_propose_138 rfl rfl ?_
                    obtain ⟨a373, q372, t_a373⟩ := tm_atR I358 h_o0 (k := 57) rfl
                    refine tr_getK q372 d_TrustDeskModel_propose_139 f_TrustDeskModel_131_13 ?_
                    refine mv_aload_n d_TrustDeskModel_propose_142 rfl rfl ?_
                    refine tr_getK (k := 53) (K359 _ 13 53 _ (K344 _ 13 53 _ (K328 _ 13 53 _ q22))) d_TrustDeskModel_propose_143 f_TrustDeskModel_501_13 ?_
                    refine mv_aload_n d_TrustDeskModel_propose_146 rfl rfl ?_
                    obtain ⟨v375, q374⟩ := tm_atI I358 h_o0 (k := 1) rfl
                    refine tr_getK q374 d_TrustDeskModel_propose_147 f_TrustDeskModel_164_13 ?_
                    have := R360.f (k := 1) q374 rfl
                    refine tr_iastR (k := 57) I358 R360 (I358.up h_o0) q372 t_a373 (by decide) (by decide) (fun lo hi h => by cases h) (Or.inl (by decide)) d_TrustDeskModel_propose_150 (vp_in_iff.mpr (by have := R360.1 53 _ _ rfl; have := R360.1 49 _ _ rfl; have := R360.1 32 _ _ rfl; omega)) (fun M376 I377 K378 R379 E380 A381 V382 => ?_)
                    have z383 := (V382 53).trans z364
                    have z384 := (V382 49).trans z365
                    have z385 := (V382 32).trans z366
                    have z386 := (A381 54 (by decide) rfl ((rv M0 o0 53).toNat)).trans z367
                    have z387 := (A381 56 (by decide) rfl ((rv M0 o0 53).toNat)).trans z369
                    have K388 : ∀ i : Nat, i < 880 → 0 ≤ ra M376 o0 8 i := (by have e9 := ((sA_a A381 (by decide +kernel)) : sA [8] _ _ _) 8 rfl; rw [e9]; exact K370)
                    have K389 : rX M376 o0 := K371.same (sA_a A381 (by decide +kernel)) (sF_a V382)
                    clear z364 z365 z366 z367 z369
                    refine mv_aload_n d_TrustDeskModel_propose_151 rfl rfl ?_
                    obtain ⟨a391, q390, t_a391⟩ := tm_atR I377 h_o0 (k := 58) rfl
                    refine tr_getK q390 d_TrustDeskModel_propose_152 f_TrustDeskModel_134_13 ?_
                    refine mv_aload_n d_TrustDeskModel_propose_155 rfl rfl ?_
                    refine tr_getK (k := 53) (K378 _ 13 53 _ (K359 _ 13 53 _ (K344 _ 13 53 _ (K328 _ 13 53 _ q22)))) d_TrustDeskModel_propose_156 f_TrustDeskModel_501_13 ?_
                    refine mv_aload_n d_TrustDeskModel_propose_159 rfl rfl ?_
                    refine tr_getK (k := 1) (K378 _ 13 1 _ q374) d_TrustDeskModel_propose_160 f_TrustDeskModel_164_13 ?_
                    refine mv_aload_n d_TrustDeskModel_propose_163 rfl rfl ?_
                    refine mv_aload_n d_TrustDeskModel_propose_164 rfl rfl ?_
                    refine tr_getK (k := 1) (K378 _ 13 1 _ q374) d_TrustDeskModel_propose_165 f_TrustDeskModel_164_13 ?_
                    refine mv_iconst (v := 2) d_TrustDeskModel_propose_168 (by decide) ?_
                    obtain ⟨_, b398, -⟩ := I377.1 _ _ h_o0
                    have : (2 : Int32).toInt = 2 := by decide
                    refine mv_callV (kc' := 0) (ks' := 0) (As := [.int v375, .int 2]) (st9 := [.int 2, .int v375, .ref o0, .int v375, .int v23, .ref a391]) d_TrustDeskModel_propose_169 lV_TrustDeskModel_396 b398 rfl (tc_TrustDeskModel_toldOn_x (d := d) (x9 := x9) (o0 := o0) (x1 := v375) (x2 := 2) h_o0 R379 K388 I377.start) rfl (Nat.le_of_ble_eq_true rfl) (Nat.le_of_ble_eq_true rfl) (Nat.le_of_ble_eq_true rfl) (hst := rfl) (fun b392r M393 n394 b392 => ?_)
                    obtain ⟨T395, J396, v399, rfl, R400, f401⟩ := b392
                    have I397 := I377.call J396 (tm_sub (by decide)) (Or.inl rfl)
                    have t402 := J396.up h_o0
                    have t403 := J396.up t_a391
                    have z404 := (rv_c I377 J396 (I377.up h_o0) (k := 53) rfl).trans z383
                    have z405 := (rv_c I377 J396 (I377.up h_o0) (k := 49) rfl).trans z384
                    have z406 := (rv_c I377 J396 (I377.up h_o0) (k := 32) rfl).trans z385
                    have z407 := (ra_call I377 J396 (I377.up h_o0) (k := 54) rfl rfl rfl ((rv M0 o0 53).toNat)).trans z386
                    have z408 := (ra_call I377 J396 (I377.up h_o0) (k := 56) rfl rfl rfl ((rv M0 o0 53).toNat)).trans z387
                    have K409 : ∀ i : Nat, i < 880 → 0 ≤ ra M393 o0 8 i := (by have e9 := ((sA_c I377 J396 (I377.up h_o0) (by decide +kernel)) : sA [8] _ _ _) 8 rfl; rw [e9]; exact K388)
                    have K410 : rX M393 o0 := K389.same (sA_c I377 J396 (I377.up h_o0) (by decide +kernel)) (sF_c I377 J396 (I377.up h_o0) (by decide +kernel))
                    clear z383 z384 z385 z386 z387
                    have q411 := J396.keep h_o0 (by decide) (K378 _ 13 0 _ (K359 _ 13 0 _ (K344 _ 13 0 _ (K328 _ 13 0 _ q5))))
                    have q412 := J396.keep h_o0 (by decide) (K378 _ 13 32 _ (K359 _ 13 32 _ (K344 _ 13 32 _ (K328 _ 13 32 _ q17))))
                    have q413 := J396.keep h_o0 (by decide) (K378 _ 13 53 _ (K359 _ 13 53 _ (K344 _ 13 53 _ (K328 _ 13 53 _ q22))))
                    have q414 := J396.keep h_o0 (by decide) (K378 _ 13 54 _ (K359 _ 13 54 _ (K344 _ 13 54 _ (K328 _ 13 54 _ q324))))
                    have t415 := J396.up t_a325
                    have q416 := J396.keep h_o0 (by decide) (K378 _ 13 55 _ (K359 _ 13 55 _ (K344 _ 13 55 _ q340)))
                    have t417 := J396.up t_a341
                    have q418 := J396.keep h_o0 (by decide) (K378 _ 13 56 _ (K359 _ 13 56 _ q355))
                    have t419 := J396.up t_a356
                    have q420 := J396.keep h_o0 (by decide) (K378 _ 13 57 _ q372)
                    have t421 := J396.up t_a373
                    have q422 := J396.keep h_o0 (by decide) (K378 _ 13 1 _ q374)
                    have q423 := J396.keep h_o0 (by decide) q390
                    refine mv_iadd d_TrustDeskModel_propose_172 ?_
                    refine tr_iastR (k := 58) I397 R400 (I397.up h_o0) q423 t403 (by decide) (by decide) (fun lo hi h => by cases h) (Or.inl (by decide)) d_TrustDeskModel_propose_173 (vp_in_iff.mpr (by have := R400.1 53 _ _ rfl; have := R400.1 49 _ _ rfl; have := R400.1 32 _ _ rfl; omega)) (fun M424 I425 K426 R427 E428 A429 V430 => ?_)
                    have z431 := (V430 53).trans z404
                    have z432 := (V430 49).trans z405
                    have z433 := (V430 32).trans z406
                    have z434 := (A429 54 (by decide) rfl ((rv M0 o0 53).toNat)).trans z407
                    have z435 := (A429 56 (by decide) rfl ((rv M0 o0 53).toNat)).trans z408
                    have K436 : ∀ i : Nat, i < 880 → 0 ≤ ra M424 o0 8 i := (by have e9 := ((sA_a A429 (by decide +kernel)) : sA [8] _ _ _) 8 rfl; rw [e9]; exact K409)
                    have K437 : rX M424 o0 := K410.same (sA_a A429 (by decide +kernel)) (sF_a V430)
                    clear z404 z405 z406 z407 z408
                    refine mv_aload_n d_TrustDeskModel_propose_174 rfl rfl ?_
                    obtain ⟨a439, q438, t_a439⟩ := tm_atR I425 t402 (k := 59) rfl
                    refine tr_getK q438 d_TrustDeskModel_propose_175 f_TrustDeskModel_137_13 ?_
                    refine mv_aload_n d_TrustDeskModel_propose_178 rfl rfl ?_
                    refine tr_getK (k := 53) (K426 _ 13 53 _ q413) d_TrustDeskModel_propose_179 f_TrustDeskModel_501_13 ?_
                    refine mv_iconst (v := 0) d_TrustDeskModel_propose_182 (by decide) ?_
                    refine tr_iastR (k := 59) I425 R427 (I425.up h_o0) q438 t_a439 (by decide) (by decide) (fun lo hi h => by cases h) (Or.inl (by decide)) d_TrustDeskModel_propose_183 (vp_in_iff.mpr (by have := R427.1 53 _ _ rfl; have := R427.1 49 _ _ rfl; have := R427.1 32 _ _ rfl; omega)) (fun M440 I441 K442 R443 E444 A445 V446 => ?_)
                    have z447 := (V446 53).trans z431
                    have z448 := (V446 49).trans z432
                    have z449 := (V446 32).trans z433
                    have z450 := (A445 54 (by decide) rfl ((rv M0 o0 53).toNat)).trans z434
                    have z451 := (A445 56 (by decide) rfl ((rv M0 o0 53).toNat)).trans z435
                    have K452 : ∀ i : Nat, i < 880 → 0 ≤ ra M440 o0 8 i := (by have e9 := ((sA_a A445 (by decide +kernel)) : sA [8] _ _ _) 8 rfl; rw [e9]; exact K436)
                    have K453 : rX M440 o0 := K437.same (sA_a A445 (by decide +kernel)) (sF_a V446)
                    clear z431 z432 z433 z434 z435
                    refine mv_aload_n d_TrustDeskModel_propose_184 rfl rfl ?_
                    refine mv_dup d_TrustDeskModel_propose_185 rfl ?_
                    refine tr_getK (k := 53) (K442 _ 13 53 _ (K426 _ 13 53 _ q413)) d_TrustDeskModel_propose_186 f_TrustDeskModel_501_13 ?_
                    refine mv_iconst (v := 1) d_TrustDeskModel_propose_189 (by decide) ?_
                    refine mv_iadd d_TrustDeskModel_propose_190 ?_
                    have b454 : (v23 + 1 : Int32).toInt = (v23.toInt + 1) := mz_add2 rfl (by decide) (by have := R443.1 53 _ _ rfl; have := R443.1 49 _ _ rfl; have := R443.1 32 _ _ rfl; omega) (by have := R443.1 53 _ _ rfl; have := R443.1 49 _ _ rfl; have := R443.1 32 _ _ rfl; omega)
                    refine tr_putR (k := 53) I441 R443 t402 rfl ⟨_, rfl⟩ (fun _ h => by cases h) rfl (fun lo hi h => by cases h; have := R443.1 53 _ _ rfl; have := R443.1 49 _ _ rfl; have := R443.1 32 _ _ rfl; exact ⟨by show (0 : Int) ≤ (v23 + 1).toInt; omega, by show (v23 + 1).toInt ≤ (40 : Int); omega⟩) (Or.inl (by decide)) d_TrustDeskModel_propose_191 p_TrustDeskModel_501_13 rfl rfl (fun M455 I456 q457 K458 R459 A460 V461 => ?_)
                    have z462 := (V461 49 (by decide)).trans z448
                    have z463 := (V461 32 (by decide)).trans z449
                    have z464 := (A460 54 (by decide) ((rv M0 o0 53).toNat)).trans z450
                    have z465 := (A460 56 (by decide) ((rv M0 o0 53).toNat)).trans z451
                    have z466 : rv M455 o0 53 = (v23 + 1).toInt := tm_rv q457
                    have K467 : ∀ i : Nat, i < 880 → 0 ≤ ra M455 o0 8 i := (by have e9 := ((sA_f A460 (by decide)) : sA [8] _ _ _) 8 rfl; rw [e9]; exact K452)
                    have K468 : rX M455 o0 := K453.inc (n := (rv M0 o0 53).toNat) A460 V461 (by omega) (by have := R443.1 53 _ _ rfl; have := R443.1 49 _ _ rfl; have := R443.1 32 _ _ rfl; omega) (by have := R443.1 53 _ _ rfl; have := R443.1 49 _ _ rfl; have := R443.1 32 _ _ rfl; omega) (fun _ => by omega) (fun _ => by omega) (fun _ => by omega)
                    clear z448 z449 z450 z451
                    refine mv_aload_n d_TrustDeskModel_propose_194 rfl rfl ?_
                    refine tr_getK (k := 53) q457 d_TrustDeskModel_propose_195 f_TrustDeskModel_501_13 ?_
                    refine mv_iconst (v := 1) d_TrustDeskModel_propose_198 (by decide) ?_
                    refine mv_isubv (v := v23) d_TrustDeskModel_propose_199 (Int32.add_sub_cancel _ _) ?_
                    exact mv_iret d_TrustDeskModel_propose_200 rfl (by first | rfl | decide) ⟨_, I456, _, rfl, R459, K468⟩
            · refine mv_iload_n d_TrustDeskModel_propose_40 rfl rfl ?_
              have := mz_hi x3
              refine mv_if_ltZ (tgt := 56) (a := x3.toInt) d_TrustDeskModel_propose_41 (by decide) rfl (fun b469 => ?_) (fun b469 => ?_)
              · refine mv_iconst (v := 0) d_TrustDeskModel_propose_56 (by decide) ?_
                refine mv_goto (tgt := 99) d_TrustDeskModel_propose_57 (by decide) ?_
                refine mv_istore (lv' := [(4, .int 0), (0, .ref o0), (1, .int x1), (2, .int x2), (3, .int x3)]) d_TrustDeskModel_propose_99 (by decide) rfl ?_
                refine mv_iload d_TrustDeskModel_propose_101 rfl ?_
                refine mv_if_ne_f (tgt := 108) d_TrustDeskModel_propose_103 (by decide) (by decide) ?_
                refine mv_iconst (v := (-1)) d_TrustDeskModel_propose_106 (by decide) ?_
                exact mv_iret d_TrustDeskModel_propose_107 rfl (by first | rfl | decide) ⟨_, I4, _, rfl, R7, K14⟩
              · refine mv_iload_n d_TrustDeskModel_propose_44 rfl rfl ?_
                refine mv_aload_n d_TrustDeskModel_propose_45 rfl rfl ?_
                obtain ⟨v471, q470⟩ := tm_atI I4 h_o0 (k := 49) rfl
                refine tr_getK q470 d_TrustDeskModel_propose_46 f_TrustDeskModel_435_13 ?_
                have := R7.f (k := 49) q470 rfl
                have := (tm_rv q470).symm.trans z11
                have := tm_rv q470
                have := mz_hi x3
                have := mz_hi v471
                refine mv_icmp_geZ (tgt := 56) (a := x3.toInt) (b := v471.toInt) d_TrustDeskModel_propose_49 (by decide) rfl rfl (fun b472 => ?_) (fun b472 => ?_)
                · refine mv_iconst (v := 0) d_TrustDeskModel_propose_56 (by decide) ?_
                  refine mv_goto (tgt := 99) d_TrustDeskModel_propose_57 (by decide) ?_
                  refine mv_istore (lv' := [(4, .int 0), (0, .ref o0), (1, .int x1), (2, .int x2), (3, .int x3)]) d_TrustDeskModel_propose_99 (by decide) rfl ?_
                  refine mv_iload d_TrustDeskModel_propose_101 rfl ?_
                  refine mv_if_ne_f (tgt := 108) d_TrustDeskModel_propose_103 (by decide) (by decide) ?_
                  refine mv_iconst (v := (-1)) d_TrustDeskModel_propose_106 (by decide) ?_
                  exact mv_iret d_TrustDeskModel_propose_107 rfl (by first | rfl | decide) ⟨_, I4, _, rfl, R7, K14⟩
                · refine mv_iconst (v := 1) d_TrustDeskModel_propose_52 (by decide) ?_
                  refine mv_goto (tgt := 99) d_TrustDeskModel_propose_53 (by decide) ?_
                  refine mv_istore (lv' := [(4, .int 1), (0, .ref o0), (1, .int x1), (2, .int x2), (3, .int x3)]) d_TrustDeskModel_propose_99 (by decide) rfl ?_
                  refine mv_iload d_TrustDeskModel_propose_101 rfl ?_
                  refine mv_if_ne_t (tgt := 108) d_TrustDeskModel_propose_103 (by decide) (by decide) ?_
                  refine mv_aload_n d_TrustDeskModel_propose_108 rfl rfl ?_
                  obtain ⟨a474, q473, t_a474⟩ := tm_atR I4 h_o0 (k := 54) rfl
                  refine tr_getK q473 d_TrustDeskModel_propose_109 f_TrustDeskModel_122_13 ?_
                  refine mv_aload_n d_TrustDeskModel_propose_112 rfl rfl ?_
                  refine tr_getK (k := 53) q22 d_TrustDeskModel_propose_113 f_TrustDeskModel_501_13 ?_
                  refine mv_iload_n d_TrustDeskModel_propose_116 rfl rfl ?_
                  refine tr_iastR (k := 54) I4 R7 (I4.up h_o0) q473 t_a474 (by decide) (by decide) (fun lo hi h => by cases h; have := R7.1 53 _ _ rfl; have := R7.1 49 _ _ rfl; have := R7.1 32 _ _ rfl; exact ⟨by show (0 : Int) ≤ x1.toInt; omega, by show x1.toInt ≤ (3 : Int); omega⟩) (Or.inl (by decide)) d_TrustDeskModel_propose_117 (vp_in_iff.mpr (by have := R7.1 53 _ _ rfl; have := R7.1 49 _ _ rfl; have := R7.1 32 _ _ rfl; omega)) (fun M475 I476 K477 R478 E479 A480 V481 => ?_)
                  have z482 := (V481 53).trans z10
                  have z483 := (V481 49).trans z11
                  have z484 := (V481 32).trans z12
                  have h485 : (rv M0 o0 53).toNat = v23.toNatClampNeg := by have := mz_nat9 (i := v23) (by have := R7.1 53 _ _ rfl; have := R7.1 49 _ _ rfl; have := R7.1 32 _ _ rfl; omega); have := R7.1 53 _ _ rfl; have := R7.1 49 _ _ rfl; have := R7.1 32 _ _ rfl; omega
                  have z486 : ra M475 o0 54 ((rv M0 o0 53).toNat) = x1.toInt := (E479 _).trans (if_pos h485)
                  have K487 : ∀ i : Nat, i < 880 → 0 ≤ ra M475 o0 8 i := (by have e9 := ((sA_a A480 (by decide +kernel)) : sA [8] _ _ _) 8 rfl; rw [e9]; exact K13)
                  have K488 : rX M475 o0 := K14.out A480 E479 V481 (Or.inl rfl) (by have := mz_nat9 (i := v23) (by have := R7.1 53 _ _ rfl; have := R7.1 49 _ _ rfl; have := R7.1 32 _ _ rfl; omega); have := R7.1 53 _ _ rfl; have := R7.1 49 _ _ rfl; have := R7.1 32 _ _ rfl; omega)
                  clear z10 z11 z12
                  refine mv_aload_n d_TrustDeskModel_propose_118 rfl rfl ?_
                  obtain ⟨a490, q489, t_a490⟩ := tm_atR I476 h_o0 (k := 55) rfl
                  refine tr_getK q489 d_TrustDeskModel_propose_119 f_TrustDeskModel_125_13 ?_
                  refine mv_aload_n d_TrustDeskModel_propose_122 rfl rfl ?_
                  refine tr_getK (k := 53) (K477 _ 13 53 _ q22) d_TrustDeskModel_propose_123 f_TrustDeskModel_501_13 ?_
                  refine mv_iload_n d_TrustDeskModel_propose_126 rfl rfl ?_
                  refine tr_iastR (k := 55) I476 R478 (I476.up h_o0) q489 t_a490 (by decide) (by decide) (fun lo hi h => by cases h; have := R478.1 53 _ _ rfl; have := R478.1 49 _ _ rfl; have := R478.1 32 _ _ rfl; exact ⟨by show (0 : Int) ≤ x2.toInt; omega, by show x2.toInt ≤ (11 : Int); omega⟩) (Or.inl (by decide)) d_TrustDeskModel_propose_127 (vp_in_iff.mpr (by have := R478.1 53 _ _ rfl; have := R478.1 49 _ _ rfl; have := R478.1 32 _ _ rfl; omega)) (fun M491 I492 K493 R494 E495 A496 V497 => ?_)
                  have z498 := (V497 53).trans z482
                  have z499 := (V497 49).trans z483
                  have z500 := (V497 32).trans z484
                  have z501 := (A496 54 (by decide) rfl ((rv M0 o0 53).toNat)).trans z486
                  have K502 : ∀ i : Nat, i < 880 → 0 ≤ ra M491 o0 8 i := (by have e9 := ((sA_a A496 (by decide +kernel)) : sA [8] _ _ _) 8 rfl; rw [e9]; exact K487)
                  have K503 : rX M491 o0 := K488.same (sA_a A496 (by decide +kernel)) (sF_a V497)
                  clear z482 z483 z484 z486
                  refine mv_aload_n d_TrustDeskModel_propose_128 rfl rfl ?_
                  obtain ⟨a505, q504, t_a505⟩ := tm_atR I492 h_o0 (k := 56) rfl
                  refine tr_getK q504 d_TrustDeskModel_propose_129 f_TrustDeskModel_128_13 ?_
                  refine mv_aload_n d_TrustDeskModel_propose_132 rfl rfl ?_
                  refine tr_getK (k := 53) (K493 _ 13 53 _ (K477 _ 13 53 _ q22)) d_TrustDeskModel_propose_133 f_TrustDeskModel_501_13 ?_
                  refine mv_iload_n d_TrustDeskModel_propose_136 rfl rfl ?_
                  refine tr_iastR (k := 56) I492 R494 (I492.up h_o0) q504 t_a505 (by decide) (by decide) (fun lo hi h => by cases h) (Or.inl (by decide)) d_TrustDeskModel_propose_137 (vp_in_iff.mpr (by have := R494.1 53 _ _ rfl; have := R494.1 49 _ _ rfl; have := R494.1 32 _ _ rfl; omega)) (fun M506 I507 K508 R509 E510 A511 V512 => ?_)
                  have z513 := (V512 53).trans z498
                  have z514 := (V512 49).trans z499
                  have z515 := (V512 32).trans z500
                  have z516 := (A511 54 (by decide) rfl ((rv M0 o0 53).toNat)).trans z501
                  have h517 : (rv M0 o0 53).toNat = v23.toNatClampNeg := by have := mz_nat9 (i := v23) (by have := R494.1 53 _ _ rfl; have := R494.1 49 _ _ rfl; have := R494.1 32 _ _ rfl; omega); have := R494.1 53 _ _ rfl; have := R494.1 49 _ _ rfl; have := R494.1 32 _ _ rfl; omega
                  have z518 : ra M506 o0 56 ((rv M0 o0 53).toNat) = x3.toInt := (E510 _).trans (if_pos h517)
                  have K519 : ∀ i : Nat, i < 880 → 0 ≤ ra M506 o0 8 i := (by have e9 := ((sA_a A511 (by decide +kernel)) : sA [8] _ _ _) 8 rfl; rw [e9]; exact K502)
                  have K520 : rX M506 o0 := K503.out A511 E510 V512 (Or.inr rfl) (by have := mz_nat9 (i := v23) (by have := R494.1 53 _ _ rfl; have := R494.1 49 _ _ rfl; have := R494.1 32 _ _ rfl; omega); have := R494.1 53 _ _ rfl; have := R494.1 49 _ _ rfl; have := R494.1 32 _ _ rfl; omega)
                  clear z498 z499 z500 z501
                  refine mv_aload_n d_TrustDeskModel_propose_138 rfl rfl ?_
                  obtain ⟨a522, q521, t_a522⟩ := tm_atR I507 h_o0 (k := 57) rfl
                  refine tr_getK q521 d_TrustDeskModel_propose_139 f_TrustDeskModel_131_13 ?_
                  refine mv_aload_n d_TrustDeskModel_propose_142 rfl rfl ?_
                  refine tr_getK (k := 53) (K508 _ 13 53 _ (K493 _ 13 53 _ (K477 _ 13 53 _ q22))) d_TrustDeskModel_propose_143 f_TrustDeskModel_501_13 ?_
                  refine mv_aload_n d_TrustDeskModel_propose_146 rfl rfl ?_
                  obtain ⟨v524, q523⟩ := tm_atI I507 h_o0 (k := 1) rfl
                  refine tr_getK q523 d_TrustDeskModel_propose_147 f_TrustDeskModel_164_13 ?_
                  have := R509.f (k := 1) q523 rfl
                  refine tr_iastR (k := 57) I507 R509 (I507.up h_o0) q521 t_a522 (by decide) (by decide) (fun lo hi h => by cases h) (Or.inl (by decide)) d_TrustDeskModel_propose_150 (vp_in_iff.mpr (by have := R509.1 53 _ _ rfl; have := R509.1 49 _ _ rfl; have := R509.1 32 _ _ rfl; omega)) (fun M525 I526 K527 R528 E529 A530 V531 => ?_)
                  have z532 := (V531 53).trans z513
                  have z533 := (V531 49).trans z514
                  have z534 := (V531 32).trans z515
                  have z535 := (A530 54 (by decide) rfl ((rv M0 o0 53).toNat)).trans z516
                  have z536 := (A530 56 (by decide) rfl ((rv M0 o0 53).toNat)).trans z518
                  have K537 : ∀ i : Nat, i < 880 → 0 ≤ ra M525 o0 8 i := (by have e9 := ((sA_a A530 (by decide +kernel)) : sA [8] _ _ _) 8 rfl; rw [e9]; exact K519)
                  have K538 : rX M525 o0 := K520.same (sA_a A530 (by decide +kernel)) (sF_a V531)
                  clear z513 z514 z515 z516 z518
                  refine mv_aload_n d_TrustDeskModel_propose_151 rfl rfl ?_
                  obtain ⟨a540, q539, t_a540⟩ := tm_atR I526 h_o0 (k := 58) rfl
                  refine tr_getK q539 d_TrustDeskModel_propose_152 f_TrustDeskModel_134_13 ?_
                  refine mv_aload_n d_TrustDeskModel_propose_155 rfl rfl ?_
                  refine tr_getK (k := 53) (K527 _ 13 53 _ (K508 _ 13 53 _ (K493 _ 13 53 _ (K477 _ 13 53 _ q22)))) d_TrustDeskModel_propose_156 f_TrustDeskModel_501_13 ?_
                  refine mv_aload_n d_TrustDeskModel_propose_159 rfl rfl ?_
                  refine tr_getK (k := 1) (K527 _ 13 1 _ q523) d_TrustDeskModel_propose_160 f_TrustDeskModel_164_13 ?_
                  refine mv_aload_n d_TrustDeskModel_propose_163 rfl rfl ?_
                  refine mv_aload_n d_TrustDeskModel_propose_164 rfl rfl ?_
                  refine tr_getK (k := 1) (K527 _ 13 1 _ q523) d_TrustDeskModel_propose_165 f_TrustDeskModel_164_13 ?_
                  refine mv_iconst (v := 2) d_TrustDeskModel_propose_168 (by decide) ?_
                  obtain ⟨_, b547, -⟩ := I526.1 _ _ h_o0
                  have : (2 : Int32).toInt = 2 := by decide
                  refine mv_callV (kc' := 0) (ks' := 0) (As := [.int v524, .int 2]) (st9 := [.int 2, .int v524, .ref o0, .int v524, .int v23, .ref a540]) d_TrustDeskModel_propose_169 lV_TrustDeskModel_396 b547 rfl (tc_TrustDeskModel_toldOn_x (d := d) (x9 := x9) (o0 := o0) (x1 := v524) (x2 := 2) h_o0 R528 K537 I526.start) rfl (Nat.le_of_ble_eq_true rfl) (Nat.le_of_ble_eq_true rfl) (Nat.le_of_ble_eq_true rfl) (hst := rfl) (fun b541r M542 n543 b541 => ?_)
                  obtain ⟨T544, J545, v548, rfl, R549, f550⟩ := b541
                  have I546 := I526.call J545 (tm_sub (by decide)) (Or.inl rfl)
                  have t551 := J545.up h_o0
                  have t552 := J545.up t_a540
                  have z553 := (rv_c I526 J545 (I526.up h_o0) (k := 53) rfl).trans z532
                  have z554 := (rv_c I526 J545 (I526.up h_o0) (k := 49) rfl).trans z533
                  have z555 := (rv_c I526 J545 (I526.up h_o0) (k := 32) rfl).trans z534
                  have z556 := (ra_call I526 J545 (I526.up h_o0) (k := 54) rfl rfl rfl ((rv M0 o0 53).toNat)).trans z535
                  have z557 := (ra_call I526 J545 (I526.up h_o0) (k := 56) rfl rfl rfl ((rv M0 o0 53).toNat)).trans z536
                  have K558 : ∀ i : Nat, i < 880 → 0 ≤ ra M542 o0 8 i := (by have e9 := ((sA_c I526 J545 (I526.up h_o0) (by decide +kernel)) : sA [8] _ _ _) 8 rfl; rw [e9]; exact K537)
                  have K559 : rX M542 o0 := K538.same (sA_c I526 J545 (I526.up h_o0) (by decide +kernel)) (sF_c I526 J545 (I526.up h_o0) (by decide +kernel))
                  clear z532 z533 z534 z535 z536
                  have q560 := J545.keep h_o0 (by decide) (K527 _ 13 0 _ (K508 _ 13 0 _ (K493 _ 13 0 _ (K477 _ 13 0 _ q5))))
                  have q561 := J545.keep h_o0 (by decide) (K527 _ 13 32 _ (K508 _ 13 32 _ (K493 _ 13 32 _ (K477 _ 13 32 _ q17))))
                  have q562 := J545.keep h_o0 (by decide) (K527 _ 13 53 _ (K508 _ 13 53 _ (K493 _ 13 53 _ (K477 _ 13 53 _ q22))))
                  have q563 := J545.keep h_o0 (by decide) (K527 _ 13 49 _ (K508 _ 13 49 _ (K493 _ 13 49 _ (K477 _ 13 49 _ q470))))
                  have q564 := J545.keep h_o0 (by decide) (K527 _ 13 54 _ (K508 _ 13 54 _ (K493 _ 13 54 _ (K477 _ 13 54 _ q473))))
                  have t565 := J545.up t_a474
                  have q566 := J545.keep h_o0 (by decide) (K527 _ 13 55 _ (K508 _ 13 55 _ (K493 _ 13 55 _ q489)))
                  have t567 := J545.up t_a490
                  have q568 := J545.keep h_o0 (by decide) (K527 _ 13 56 _ (K508 _ 13 56 _ q504))
                  have t569 := J545.up t_a505
                  have q570 := J545.keep h_o0 (by decide) (K527 _ 13 57 _ q521)
                  have t571 := J545.up t_a522
                  have q572 := J545.keep h_o0 (by decide) (K527 _ 13 1 _ q523)
                  have q573 := J545.keep h_o0 (by decide) q539
                  refine mv_iadd d_TrustDeskModel_propose_172 ?_
                  refine tr_iastR (k := 58) I546 R549 (I546.up h_o0) q573 t552 (by decide) (by decide) (fun lo hi h => by cases h) (Or.inl (by decide)) d_TrustDeskModel_propose_173 (vp_in_iff.mpr (by have := R549.1 53 _ _ rfl; have := R549.1 49 _ _ rfl; have := R549.1 32 _ _ rfl; omega)) (fun M574 I575 K576 R577 E578 A579 V580 => ?_)
                  have z581 := (V580 53).trans z553
                  have z582 := (V580 49).trans z554
                  have z583 := (V580 32).trans z555
                  have z584 := (A579 54 (by decide) rfl ((rv M0 o0 53).toNat)).trans z556
                  have z585 := (A579 56 (by decide) rfl ((rv M0 o0 53).toNat)).trans z557
                  have K586 : ∀ i : Nat, i < 880 → 0 ≤ ra M574 o0 8 i := (by have e9 := ((sA_a A579 (by decide +kernel)) : sA [8] _ _ _) 8 rfl; rw [e9]; exact K558)
                  have K587 : rX M574 o0 := K559.same (sA_a A579 (by decide +kernel)) (sF_a V580)
                  clear z553 z554 z555 z556 z557
                  refine mv_aload_n d_TrustDeskModel_propose_174 rfl rfl ?_
                  obtain ⟨a589, q588, t_a589⟩ := tm_atR I575 t551 (k := 59) rfl
                  refine tr_getK q588 d_TrustDeskModel_propose_175 f_TrustDeskModel_137_13 ?_
                  refine mv_aload_n d_TrustDeskModel_propose_178 rfl rfl ?_
                  refine tr_getK (k := 53) (K576 _ 13 53 _ q562) d_TrustDeskModel_propose_179 f_TrustDeskModel_501_13 ?_
                  refine mv_iconst (v := 0) d_TrustDeskModel_propose_182 (by decide) ?_
                  refine tr_iastR (k := 59) I575 R577 (I575.up h_o0) q588 t_a589 (by decide) (by decide) (fun lo hi h => by cases h) (Or.inl (by decide)) d_TrustDeskModel_propose_183 (vp_in_iff.mpr (by have := R577.1 53 _ _ rfl; have := R577.1 49 _ _ rfl; have := R577.1 32 _ _ rfl; omega)) (fun M590 I591 K592 R593 E594 A595 V596 => ?_)
                  have z597 := (V596 53).trans z581
                  have z598 := (V596 49).trans z582
                  have z599 := (V596 32).trans z583
                  have z600 := (A595 54 (by decide) rfl ((rv M0 o0 53).toNat)).trans z584
                  have z601 := (A595 56 (by decide) rfl ((rv M0 o0 53).toNat)).trans z585
                  have K602 : ∀ i : Nat, i < 880 → 0 ≤ ra M590 o0 8 i := (by have e9 := ((sA_a A595 (by decide +kernel)) : sA [8] _ _ _) 8 rfl; rw [e9]; exact K586)
                  have K603 : rX M590 o0 := K587.same (sA_a A595 (by decide +kernel)) (sF_a V596)
                  clear z581 z582 z583 z584 z585
                  refine mv_aload_n d_TrustDeskModel_propose_184 rfl rfl ?_
                  refine mv_dup d_TrustDeskModel_propose_185 rfl ?_
                  refine tr_getK (k := 53) (K592 _ 13 53 _ (K576 _ 13 53 _ q562)) d_TrustDeskModel_propose_186 f_TrustDeskModel_501_13 ?_
                  refine mv_iconst (v := 1) d_TrustDeskModel_propose_189 (by decide) ?_
                  refine mv_iadd d_TrustDeskModel_propose_190 ?_
                  have b604 : (v23 + 1 : Int32).toInt = (v23.toInt + 1) := mz_add2 rfl (by decide) (by have := R593.1 53 _ _ rfl; have := R593.1 49 _ _ rfl; have := R593.1 32 _ _ rfl; omega) (by have := R593.1 53 _ _ rfl; have := R593.1 49 _ _ rfl; have := R593.1 32 _ _ rfl; omega)
                  refine tr_putR (k := 53) I591 R593 t551 rfl ⟨_, rfl⟩ (fun _ h => by cases h) rfl (fun lo hi h => by cases h; have := R593.1 53 _ _ rfl; have := R593.1 49 _ _ rfl; have := R593.1 32 _ _ rfl; exact ⟨by show (0 : Int) ≤ (v23 + 1).toInt; omega, by show (v23 + 1).toInt ≤ (40 : Int); omega⟩) (Or.inl (by decide)) d_TrustDeskModel_propose_191 p_TrustDeskModel_501_13 rfl rfl (fun M605 I606 q607 K608 R609 A610 V611 => ?_)
                  have z612 := (V611 49 (by decide)).trans z598
                  have z613 := (V611 32 (by decide)).trans z599
                  have z614 := (A610 54 (by decide) ((rv M0 o0 53).toNat)).trans z600
                  have z615 := (A610 56 (by decide) ((rv M0 o0 53).toNat)).trans z601
                  have z616 : rv M605 o0 53 = (v23 + 1).toInt := tm_rv q607
                  have K617 : ∀ i : Nat, i < 880 → 0 ≤ ra M605 o0 8 i := (by have e9 := ((sA_f A610 (by decide)) : sA [8] _ _ _) 8 rfl; rw [e9]; exact K602)
                  have K618 : rX M605 o0 := K603.inc (n := (rv M0 o0 53).toNat) A610 V611 (by omega) (by have := R593.1 53 _ _ rfl; have := R593.1 49 _ _ rfl; have := R593.1 32 _ _ rfl; omega) (by have := R593.1 53 _ _ rfl; have := R593.1 49 _ _ rfl; have := R593.1 32 _ _ rfl; omega) (fun _ => by omega) (fun _ => by omega) (fun _ => by omega)
                  clear z598 z599 z600 z601
                  refine mv_aload_n d_TrustDeskModel_propose_194 rfl rfl ?_
                  refine tr_getK (k := 53) q607 d_TrustDeskModel_propose_195 f_TrustDeskModel_501_13 ?_
                  refine mv_iconst (v := 1) d_TrustDeskModel_propose_198 (by decide) ?_
                  refine mv_isubv (v := v23) d_TrustDeskModel_propose_199 (Int32.add_sub_cancel _ _) ?_
                  exact mv_iret d_TrustDeskModel_propose_200 rfl (by first | rfl | decide) ⟨_, I606, _, rfl, R609, K618⟩
          · refine mv_iconst (v := (-1)) d_TrustDeskModel_propose_34 (by decide) ?_
            exact mv_iret d_TrustDeskModel_propose_35 rfl (by first | rfl | decide) ⟨_, I4, _, rfl, R7, K14⟩
abbrev kY_TrustDeskModel_vote : mj_Y := (⟨"TrustDeskModel", "vote", "(IIZ)Z"⟩, prog_14_method_77_code, 5, (Option.some Jvm.ClassFile.FieldType.boolean))
theorem d_TrustDeskModel_vote_0 : decode kY_TrustDeskModel_vote.2.1 0 = .ok (.aload_n 0, 1) := by decide +kernel
theorem d_TrustDeskModel_vote_1 : decode kY_TrustDeskModel_vote.2.1 1 = .ok (.iconst 0, 1) := by decide +kernel
theorem d_TrustDeskModel_vote_2 : decode kY_TrustDeskModel_vote.2.1 2 = .ok (.putfield 1, 3) := by decide +kernel
theorem d_TrustDeskModel_vote_5 : decode kY_TrustDeskModel_vote.2.1 5 = .ok (.aload_n 0, 1) := by decide +kernel
theorem d_TrustDeskModel_vote_6 : decode kY_TrustDeskModel_vote.2.1 6 = .ok (.iload_n 1, 1) := by decide +kernel
theorem d_TrustDeskModel_vote_7 : decode kY_TrustDeskModel_vote.2.1 7 = .ok (.invokevirtual 506, 3) := by decide +kernel
theorem d_TrustDeskModel_vote_10 : decode kY_TrustDeskModel_vote.2.1 10 = .ok (.ifCond .eq 19, 3) := by decide +kernel
theorem d_TrustDeskModel_vote_29 : decode kY_TrustDeskModel_vote.2.1 29 = .ok (.iconst 0, 1) := by decide +kernel
theorem d_TrustDeskModel_vote_30 : decode kY_TrustDeskModel_vote.2.1 30 = .ok (.ireturn, 1) := by decide +kernel
theorem d_TrustDeskModel_vote_13 : decode kY_TrustDeskModel_vote.2.1 13 = .ok (.iload_n 2, 1) := by decide +kernel
theorem d_TrustDeskModel_vote_14 : decode kY_TrustDeskModel_vote.2.1 14 = .ok (.invokestatic 495, 3) := by decide +kernel
theorem d_TrustDeskModel_vote_17 : decode kY_TrustDeskModel_vote.2.1 17 = .ok (.ifCond .eq 12, 3) := by decide +kernel
theorem d_TrustDeskModel_vote_20 : decode kY_TrustDeskModel_vote.2.1 20 = .ok (.aload_n 0, 1) := by decide +kernel
theorem d_TrustDeskModel_vote_21 : decode kY_TrustDeskModel_vote.2.1 21 = .ok (.getfield 137, 3) := by decide +kernel
theorem d_TrustDeskModel_vote_24 : decode kY_TrustDeskModel_vote.2.1 24 = .ok (.iload_n 1, 1) := by decide +kernel
theorem d_TrustDeskModel_vote_25 : decode kY_TrustDeskModel_vote.2.1 25 = .ok (.iaload, 1) := by decide +kernel
theorem d_TrustDeskModel_vote_26 : decode kY_TrustDeskModel_vote.2.1 26 = .ok (.ifCond .eq 5, 3) := by decide +kernel
theorem d_TrustDeskModel_vote_31 : decode kY_TrustDeskModel_vote.2.1 31 = .ok (.aload_n 0, 1) := by decide +kernel
theorem d_TrustDeskModel_vote_32 : decode kY_TrustDeskModel_vote.2.1 32 = .ok (.getfield 88, 3) := by decide +kernel
theorem d_TrustDeskModel_vote_35 : decode kY_TrustDeskModel_vote.2.1 35 = .ok (.bipush 100, 2) := by decide +kernel
theorem d_TrustDeskModel_vote_37 : decode kY_TrustDeskModel_vote.2.1 37 = .ok (.aload_n 0, 1) := by decide +kernel
theorem d_TrustDeskModel_vote_38 : decode kY_TrustDeskModel_vote.2.1 38 = .ok (.getfield 125, 3) := by decide +kernel
theorem d_TrustDeskModel_vote_41 : decode kY_TrustDeskModel_vote.2.1 41 = .ok (.iload_n 1, 1) := by decide +kernel
theorem d_TrustDeskModel_vote_42 : decode kY_TrustDeskModel_vote.2.1 42 = .ok (.iaload, 1) := by decide +kernel
theorem d_TrustDeskModel_vote_43 : decode kY_TrustDeskModel_vote.2.1 43 = .ok (.imul, 1) := by decide +kernel
theorem d_TrustDeskModel_vote_44 : decode kY_TrustDeskModel_vote.2.1 44 = .ok (.iload_n 2, 1) := by decide +kernel
theorem d_TrustDeskModel_vote_45 : decode kY_TrustDeskModel_vote.2.1 45 = .ok (.iadd, 1) := by decide +kernel
theorem d_TrustDeskModel_vote_46 : decode kY_TrustDeskModel_vote.2.1 46 = .ok (.baload, 1) := by decide +kernel
theorem d_TrustDeskModel_vote_47 : decode kY_TrustDeskModel_vote.2.1 47 = .ok (.ifCond .ne 32, 3) := by decide +kernel
theorem d_TrustDeskModel_vote_79 : decode kY_TrustDeskModel_vote.2.1 79 = .ok (.iconst 1, 1) := by decide +kernel
theorem d_TrustDeskModel_vote_80 : decode kY_TrustDeskModel_vote.2.1 80 = .ok (.goto 4, 3) := by decide +kernel
theorem d_TrustDeskModel_vote_84 : decode kY_TrustDeskModel_vote.2.1 84 = .ok (.istore 4, 2) := by decide +kernel
theorem d_TrustDeskModel_vote_86 : decode kY_TrustDeskModel_vote.2.1 86 = .ok (.iload 4, 2) := by decide +kernel
theorem d_TrustDeskModel_vote_88 : decode kY_TrustDeskModel_vote.2.1 88 = .ok (.ifCond .ne 5, 3) := by decide +kernel
theorem d_TrustDeskModel_vote_93 : decode kY_TrustDeskModel_vote.2.1 93 = .ok (.aload_n 0, 1) := by decide +kernel
theorem d_TrustDeskModel_vote_94 : decode kY_TrustDeskModel_vote.2.1 94 = .ok (.getfield 146, 3) := by decide +kernel
theorem d_TrustDeskModel_vote_97 : decode kY_TrustDeskModel_vote.2.1 97 = .ok (.bipush 100, 2) := by decide +kernel
theorem d_TrustDeskModel_vote_99 : decode kY_TrustDeskModel_vote.2.1 99 = .ok (.iload_n 1, 1) := by decide +kernel
theorem d_TrustDeskModel_vote_100 : decode kY_TrustDeskModel_vote.2.1 100 = .ok (.imul, 1) := by decide +kernel
theorem d_TrustDeskModel_vote_101 : decode kY_TrustDeskModel_vote.2.1 101 = .ok (.iload_n 2, 1) := by decide +kernel
theorem d_TrustDeskModel_vote_102 : decode kY_TrustDeskModel_vote.2.1 102 = .ok (.iadd, 1) := by decide +kernel
theorem d_TrustDeskModel_vote_103 : decode kY_TrustDeskModel_vote.2.1 103 = .ok (.iload_n 3, 1) := by decide +kernel
theorem d_TrustDeskModel_vote_104 : decode kY_TrustDeskModel_vote.2.1 104 = .ok (.ifCond .eq 7, 3) := by decide +kernel
theorem d_TrustDeskModel_vote_111 : decode kY_TrustDeskModel_vote.2.1 111 = .ok (.iconst 2, 1) := by decide +kernel
theorem d_TrustDeskModel_vote_112 : decode kY_TrustDeskModel_vote.2.1 112 = .ok (.iastore, 1) := by decide +kernel
theorem d_TrustDeskModel_vote_113 : decode kY_TrustDeskModel_vote.2.1 113 = .ok (.iconst 1, 1) := by decide +kernel
theorem d_TrustDeskModel_vote_114 : decode kY_TrustDeskModel_vote.2.1 114 = .ok (.ireturn, 1) := by decide +kernel
theorem d_TrustDeskModel_vote_107 : decode kY_TrustDeskModel_vote.2.1 107 = .ok (.iconst 1, 1) := by decide +kernel
theorem d_TrustDeskModel_vote_108 : decode kY_TrustDeskModel_vote.2.1 108 = .ok (.goto 4, 3) := by decide +kernel
theorem d_TrustDeskModel_vote_50 : decode kY_TrustDeskModel_vote.2.1 50 = .ok (.aload_n 0, 1) := by decide +kernel
theorem d_TrustDeskModel_vote_51 : decode kY_TrustDeskModel_vote.2.1 51 = .ok (.getfield 122, 3) := by decide +kernel
theorem d_TrustDeskModel_vote_54 : decode kY_TrustDeskModel_vote.2.1 54 = .ok (.iload_n 1, 1) := by decide +kernel
theorem d_TrustDeskModel_vote_55 : decode kY_TrustDeskModel_vote.2.1 55 = .ok (.iaload, 1) := by decide +kernel
theorem d_TrustDeskModel_vote_56 : decode kY_TrustDeskModel_vote.2.1 56 = .ok (.iconst 1, 1) := by decide +kernel
theorem d_TrustDeskModel_vote_57 : decode kY_TrustDeskModel_vote.2.1 57 = .ok (.if_icmp .ne 26, 3) := by decide +kernel
theorem d_TrustDeskModel_vote_83 : decode kY_TrustDeskModel_vote.2.1 83 = .ok (.iconst 0, 1) := by decide +kernel
theorem d_TrustDeskModel_vote_91 : decode kY_TrustDeskModel_vote.2.1 91 = .ok (.iconst 0, 1) := by decide +kernel
theorem d_TrustDeskModel_vote_92 : decode kY_TrustDeskModel_vote.2.1 92 = .ok (.ireturn, 1) := by decide +kernel
theorem d_TrustDeskModel_vote_60 : decode kY_TrustDeskModel_vote.2.1 60 = .ok (.aload_n 0, 1) := by decide +kernel
theorem d_TrustDeskModel_vote_61 : decode kY_TrustDeskModel_vote.2.1 61 = .ok (.getfield 88, 3) := by decide +kernel
theorem d_TrustDeskModel_vote_64 : decode kY_TrustDeskModel_vote.2.1 64 = .ok (.bipush 100, 2) := by decide +kernel
theorem d_TrustDeskModel_vote_66 : decode kY_TrustDeskModel_vote.2.1 66 = .ok (.aload_n 0, 1) := by decide +kernel
theorem d_TrustDeskModel_vote_67 : decode kY_TrustDeskModel_vote.2.1 67 = .ok (.getfield 128, 3) := by decide +kernel
theorem d_TrustDeskModel_vote_70 : decode kY_TrustDeskModel_vote.2.1 70 = .ok (.iload_n 1, 1) := by decide +kernel
theorem d_TrustDeskModel_vote_71 : decode kY_TrustDeskModel_vote.2.1 71 = .ok (.iaload, 1) := by decide +kernel
theorem d_TrustDeskModel_vote_72 : decode kY_TrustDeskModel_vote.2.1 72 = .ok (.imul, 1) := by decide +kernel
theorem d_TrustDeskModel_vote_73 : decode kY_TrustDeskModel_vote.2.1 73 = .ok (.iload_n 2, 1) := by decide +kernel
theorem d_TrustDeskModel_vote_74 : decode kY_TrustDeskModel_vote.2.1 74 = .ok (.iadd, 1) := by decide +kernel
theorem d_TrustDeskModel_vote_75 : decode kY_TrustDeskModel_vote.2.1 75 = .ok (.baload, 1) := by decide +kernel
theorem d_TrustDeskModel_vote_76 : decode kY_TrustDeskModel_vote.2.1 76 = .ok (.ifCond .eq 7, 3) := by decide +kernel
def w_TrustDeskModel_vote_x : List Nat := [1300, 20062]
set_option maxHeartbeats 100000000 in theorem tc_TrustDeskModel_vote_x {g : mj_G} {l : Launch} {d : Nat} {T0 : tm_H} {M0 : mj_M} {n0 x9 : Nat} {o0 : Nat} {x1 : Int32} {x2 : Int32} {x3 : Int32} (h_o0 : T0 o0 = some (0, 13, 0)) (hn0 : 0 ≤ x3.toInt ∧ x3.toInt ≤ 1) (yR : rI M0 o0) (yX : rX M0 o0) (I0 : tm_I tm_FT (tm_in w_TrustDeskModel_vote_x) x9 T0 M0 n0 T0 M0 n0) : mj_Met g l kY_TrustDeskModel_vote (d + 1) [.ref o0, .int x1, .int x2, .int x3] M0 n0 0 0 (tm_Q tm_FT (tm_in w_TrustDeskModel_vote_x) x9 T0 M0 n0 (fun r _ M => ∃ v : Int32, r = some (.int v) ∧ 0 ≤ v.toInt ∧ v.toInt ≤ 1 ∧ rI M o0)) := by
  refine mj_enter (by decide) (Nat.le_of_ble_eq_true rfl) ?_
  have K1 : rX M0 o0 := yX
  refine mv_aload_n d_TrustDeskModel_vote_0 rfl rfl ?_
  refine mv_iconst (v := 0) d_TrustDeskModel_vote_1 (by decide) ?_
  refine tr_putR (k := 0) I0 yR h_o0 rfl ⟨_, rfl⟩ (fun _ h => by cases h) rfl (fun lo hi h => by cases h) (Or.inl (by decide)) d_TrustDeskModel_vote_2 p_TrustDeskModel_1_13 rfl rfl (fun M2 I3 q4 K5 R6 A7 V8 => ?_)
  have z9 := (V8 32 (by decide))
  have z10 := (V8 53 (by decide))
  have K11 : rX M2 o0 := K1.same (sA_f A7 (by decide)) (sF_f V8 (by decide))
  refine mv_aload_n d_TrustDeskModel_vote_5 rfl rfl ?_
  refine mv_iload_n d_TrustDeskModel_vote_6 rfl rfl ?_
  obtain ⟨_, b12, -⟩ := I3.1 _ _ h_o0
  refine mv_callV (kc1 := 0) (ks1 := 0) (kc' := 0) (ks' := 0) (As := [.int x1]) (st9 := [.int x1, .ref o0]) d_TrustDeskModel_vote_7 lV_TrustDeskModel_506 b12 rfl (mj_enter (by decide) (Nat.le_of_ble_eq_true rfl) ?_) rfl (Nat.le_of_ble_eq_true rfl) (Nat.le_of_ble_eq_true rfl) (Nat.le_of_ble_eq_true rfl) (hst := rfl) (fun _ _ _ h => h)
  refine mv_iload_n d_TrustDeskModel_isScheme_0 rfl rfl ?_
  have := mz_hi x1
  refine mv_if_ltZ (tgt := 16) (a := x1.toInt) d_TrustDeskModel_isScheme_1 (by decide) rfl (fun b13 => ?_) (fun b13 => ?_)
  · refine mv_iconst (v := 0) d_TrustDeskModel_isScheme_16 (by decide) ?_
    refine mv_iret d_TrustDeskModel_isScheme_17 rfl (by decide) ?_
    refine mv_if_eq_t (tgt := 29) d_TrustDeskModel_vote_10 (by decide) (by decide) ?_
    refine mv_iconst (v := 0) d_TrustDeskModel_vote_29 (by decide) ?_
    exact mv_iret d_TrustDeskModel_vote_30 rfl (by decide) ⟨_, I3, _, rfl, by decide, by decide, R6⟩
  · refine mv_iload_n d_TrustDeskModel_isScheme_4 rfl rfl ?_
    refine mv_aload_n d_TrustDeskModel_isScheme_5 rfl rfl ?_
    obtain ⟨v15, q14⟩ := tm_atI I3 h_o0 (k := 53) rfl
    refine tr_getK q14 d_TrustDeskModel_isScheme_6 f_TrustDeskModel_501_13 ?_
    have := R6.f (k := 53) q14 rfl
    have := (tm_rv q14).symm.trans z10
    have := tm_rv q14
    have := mz_hi x1
    have := mz_hi v15
    refine mv_icmp_geZ (tgt := 16) (a := x1.toInt) (b := v15.toInt) d_TrustDeskModel_isScheme_9 (by decide) rfl rfl (fun b16 => ?_) (fun b16 => ?_)
    · refine mv_iconst (v := 0) d_TrustDeskModel_isScheme_16 (by decide) ?_
      refine mv_iret d_TrustDeskModel_isScheme_17 rfl (by decide) ?_
      refine mv_if_eq_t (tgt := 29) d_TrustDeskModel_vote_10 (by decide) (by decide) ?_
      refine mv_iconst (v := 0) d_TrustDeskModel_vote_29 (by decide) ?_
      exact mv_iret d_TrustDeskModel_vote_30 rfl (by decide) ⟨_, I3, _, rfl, by decide, by decide, R6⟩
    · refine mv_iconst (v := 1) d_TrustDeskModel_isScheme_12 (by decide) ?_
      refine mv_goto (tgt := 17) d_TrustDeskModel_isScheme_13 (by decide) ?_
      refine mv_iret d_TrustDeskModel_isScheme_17 rfl (by decide) ?_
      refine mv_if_eq_f (tgt := 29) d_TrustDeskModel_vote_10 (by decide) (by decide) ?_
      refine mv_iload_n d_TrustDeskModel_vote_13 rfl rfl ?_
      refine mv_callS (kc1 := 0) (ks1 := 0) (kc' := 0) (ks' := 0) (As := [.int x2]) (st9 := [.int x2]) d_TrustDeskModel_vote_14 lS_TrustDeskModel_495 (mj_enter (by decide) (Nat.le_of_ble_eq_true rfl) ?_) rfl (Nat.le_of_ble_eq_true rfl) (Nat.le_of_ble_eq_true rfl) (Nat.le_of_ble_eq_true rfl) (hst := rfl) (fun _ _ _ h => h)
      refine mv_iload_n d_TrustDeskModel_isPerson_0 rfl rfl ?_
      have := mz_hi x2
      refine mv_if_ltZ (tgt := 14) (a := x2.toInt) d_TrustDeskModel_isPerson_1 (by decide) rfl (fun b17 => ?_) (fun b17 => ?_)
      · refine mv_iconst (v := 0) d_TrustDeskModel_isPerson_14 (by decide) ?_
        refine mv_iret d_TrustDeskModel_isPerson_15 rfl (by decide) ?_
        refine mv_if_eq_t (tgt := 29) d_TrustDeskModel_vote_17 (by decide) (by decide) ?_
        refine mv_iconst (v := 0) d_TrustDeskModel_vote_29 (by decide) ?_
        exact mv_iret d_TrustDeskModel_vote_30 rfl (by decide) ⟨_, I3, _, rfl, by decide, by decide, R6⟩
      · refine mv_iload_n d_TrustDeskModel_isPerson_4 rfl rfl ?_
        refine mv_bipush (v := 100) d_TrustDeskModel_isPerson_5 (by decide) ?_
        have := mz_hi x2
        refine mv_icmp_geZ (tgt := 14) (a := x2.toInt) (b := 100) d_TrustDeskModel_isPerson_7 (by decide) rfl (by decide) (fun b18 => ?_) (fun b18 => ?_)
        · refine mv_iconst (v := 0) d_TrustDeskModel_isPerson_14 (by decide) ?_
          refine mv_iret d_TrustDeskModel_isPerson_15 rfl (by decide) ?_
          refine mv_if_eq_t (tgt := 29) d_TrustDeskModel_vote_17 (by decide) (by decide) ?_
          refine mv_iconst (v := 0) d_TrustDeskModel_vote_29 (by decide) ?_
          exact mv_iret d_TrustDeskModel_vote_30 rfl (by decide) ⟨_, I3, _, rfl, by decide, by decide, R6⟩
        · refine mv_iconst (v := 1) d_TrustDeskModel_isPerson_10 (by decide) ?_
          refine mv_goto (tgt := 15) d_TrustDeskModel_isPerson_11 (by decide) ?_
          refine mv_iret d_TrustDeskModel_isPerson_15 rfl (by decide) ?_
          refine mv_if_eq_f (tgt := 29) d_TrustDeskModel_vote_17 (by decide) (by decide) ?_
          refine mv_aload_n d_TrustDeskModel_vote_20 rfl rfl ?_
          obtain ⟨a20, q19, t_a20⟩ := tm_atR I3 h_o0 (k := 59) rfl
          refine tr_getK q19 d_TrustDeskModel_vote_21 f_TrustDeskModel_137_13 ?_
          refine mv_iload_n d_TrustDeskModel_vote_24 rfl rfl ?_
          refine tr_ialdR (o := o0) (k := 59) I3 q19 t_a20 (by decide) d_TrustDeskModel_vote_25 (vp_in_iff.mpr (by have := R6.1 32 _ _ rfl; have := R6.1 53 _ _ rfl; omega)) (fun v21 e22 => ?_)
          have := mz_hi v21
          refine mv_if_eqZ (tgt := 31) (a := v21.toInt) d_TrustDeskModel_vote_26 (by decide) rfl (fun b23 => ?_) (fun b23 => ?_)
          · refine mv_aload_n d_TrustDeskModel_vote_31 rfl rfl ?_
            obtain ⟨a25, q24, t_a25⟩ := tm_atR I3 h_o0 (k := 40) rfl
            refine tr_getK q24 d_TrustDeskModel_vote_32 f_TrustDeskModel_88_13 ?_
            refine mv_bipush (v := 100) d_TrustDeskModel_vote_35 (by decide) ?_
            refine mv_aload_n d_TrustDeskModel_vote_37 rfl rfl ?_
            obtain ⟨a27, q26, t_a27⟩ := tm_atR I3 h_o0 (k := 55) rfl
            refine tr_getK q26 d_TrustDeskModel_vote_38 f_TrustDeskModel_125_13 ?_
            refine mv_iload_n d_TrustDeskModel_vote_41 rfl rfl ?_
            refine tr_ialdR (o := o0) (k := 55) I3 q26 t_a27 (by decide) d_TrustDeskModel_vote_42 (vp_in_iff.mpr (by have := R6.1 32 _ _ rfl; have := R6.1 53 _ _ rfl; omega)) (fun v28 e29 => ?_)
            have := R6.a (k := 55) rfl (x1 : Int32).toNatClampNeg
            refine mv_imul d_TrustDeskModel_vote_43 ?_
            refine mv_iload_n d_TrustDeskModel_vote_44 rfl rfl ?_
            refine mv_iadd d_TrustDeskModel_vote_45 ?_
            have b30 : (100 * v28 : Int32).toInt = (100 * v28.toInt) := mz_mul2 (by decide) rfl (by have := R6.1 32 _ _ rfl; have := R6.1 53 _ _ rfl; omega) (by have := R6.1 32 _ _ rfl; have := R6.1 53 _ _ rfl; omega)
            have b31 : ((100 * v28) + x2 : Int32).toInt = ((100 * v28.toInt) + x2.toInt) := mz_add2 b30 rfl (by have := R6.1 32 _ _ rfl; have := R6.1 53 _ _ rfl; omega) (by have := R6.1 32 _ _ rfl; have := R6.1 53 _ _ rfl; omega)
            refine tr_zaldR (o := o0) (k := 40) I3 q24 t_a25 (by decide) d_TrustDeskModel_vote_46 (vp_in_iff.mpr (by have := R6.1 32 _ _ rfl; have := R6.1 53 _ _ rfl; omega)) (fun v32 e33 => ?_)
            have := mz_hi v32
            refine mv_if_neZ (tgt := 79) (a := v32.toInt) d_TrustDeskModel_vote_47 (by decide) rfl (fun b34 => ?_) (fun b34 => ?_)
            · refine mv_iconst (v := 1) d_TrustDeskModel_vote_79 (by decide) ?_
              refine mv_goto (tgt := 84) d_TrustDeskModel_vote_80 (by decide) ?_
              refine mv_istore (lv' := [(4, .int 1), (0, .ref o0), (1, .int x1), (2, .int x2), (3, .int x3)]) d_TrustDeskModel_vote_84 (by decide) rfl ?_
              refine mv_iload d_TrustDeskModel_vote_86 rfl ?_
              refine mv_if_ne_t (tgt := 93) d_TrustDeskModel_vote_88 (by decide) (by decide) ?_
              refine mv_aload_n d_TrustDeskModel_vote_93 rfl rfl ?_
              obtain ⟨a36, q35, t_a36⟩ := tm_atR I3 h_o0 (k := 62) rfl
              refine tr_getK q35 d_TrustDeskModel_vote_94 f_TrustDeskModel_146_13 ?_
              refine mv_bipush (v := 100) d_TrustDeskModel_vote_97 (by decide) ?_
              refine mv_iload_n d_TrustDeskModel_vote_99 rfl rfl ?_
              refine mv_imul d_TrustDeskModel_vote_100 ?_
              refine mv_iload_n d_TrustDeskModel_vote_101 rfl rfl ?_
              refine mv_iadd d_TrustDeskModel_vote_102 ?_
              refine mv_iload_n d_TrustDeskModel_vote_103 rfl rfl ?_
              have := mz_hi x3
              refine mv_if_eqZ (tgt := 111) (a := x3.toInt) d_TrustDeskModel_vote_104 (by decide) rfl (fun b37 => ?_) (fun b37 => ?_)
              · refine mv_iconst (v := 2) d_TrustDeskModel_vote_111 (by decide) ?_
                have b38 : (100 * x1 : Int32).toInt = (100 * x1.toInt) := mz_mul2 (by decide) rfl (by have := R6.1 32 _ _ rfl; have := R6.1 53 _ _ rfl; omega) (by have := R6.1 32 _ _ rfl; have := R6.1 53 _ _ rfl; omega)
                have b39 : ((100 * x1) + x2 : Int32).toInt = ((100 * x1.toInt) + x2.toInt) := mz_add2 b38 rfl (by have := R6.1 32 _ _ rfl; have := R6.1 53 _ _ rfl; omega) (by have := R6.1 32 _ _ rfl; have := R6.1 53 _ _ rfl; omega)
                refine tr_iastR (k := 62) I3 R6 (I3.up h_o0) q35 t_a36 (by decide) (by decide) (fun lo hi h => by cases h) (Or.inl (by decide)) d_TrustDeskModel_vote_112 (vp_in_iff.mpr (by have := R6.1 32 _ _ rfl; have := R6.1 53 _ _ rfl; omega)) (fun M40 I41 K42 R43 E44 A45 V46 => ?_)
                have z47 := (V46 32).trans z9
                have z48 := (V46 53).trans z10
                have K49 : rX M40 o0 := K11.same (sA_a A45 (by decide +kernel)) (sF_a V46)
                clear z9 z10
                refine mv_iconst (v := 1) d_TrustDeskModel_vote_113 (by decide) ?_
                exact mv_iret d_TrustDeskModel_vote_114 rfl (by decide) ⟨_, I41, _, rfl, by decide, by decide, R43⟩
              · refine mv_iconst (v := 1) d_TrustDeskModel_vote_107 (by decide) ?_
                refine mv_goto (tgt := 112) d_TrustDeskModel_vote_108 (by decide) ?_
                have b50 : (100 * x1 : Int32).toInt = (100 * x1.toInt) := mz_mul2 (by decide) rfl (by have := R6.1 32 _ _ rfl; have := R6.1 53 _ _ rfl; omega) (by have := R6.1 32 _ _ rfl; have := R6.1 53 _ _ rfl; omega)
                have b51 : ((100 * x1) + x2 : Int32).toInt = ((100 * x1.toInt) + x2.toInt) := mz_add2 b50 rfl (by have := R6.1 32 _ _ rfl; have := R6.1 53 _ _ rfl; omega) (by have := R6.1 32 _ _ rfl; have := R6.1 53 _ _ rfl; omega)
                refine tr_iastR (k := 62) I3 R6 (I3.up h_o0) q35 t_a36 (by decide) (by decide) (fun lo hi h => by cases h) (Or.inl (by decide)) d_TrustDeskModel_vote_112 (vp_in_iff.mpr (by have := R6.1 32 _ _ rfl; have := R6.1 53 _ _ rfl; omega)) (fun M52 I53 K54 R55 E56 A57 V58 => ?_)
                have z59 := (V58 32).trans z9
                have z60 := (V58 53).trans z10
                have K61 : rX M52 o0 := K11.same (sA_a A57 (by decide +kernel)) (sF_a V58)
                clear z9 z10
                refine mv_iconst (v := 1) d_TrustDeskModel_vote_113 (by decide) ?_
                exact mv_iret d_TrustDeskModel_vote_114 rfl (by decide) ⟨_, I53, _, rfl, by decide, by decide, R55⟩
            · refine mv_aload_n d_TrustDeskModel_vote_50 rfl rfl ?_
              obtain ⟨a63, q62, t_a63⟩ := tm_atR I3 h_o0 (k := 54) rfl
              refine tr_getK q62 d_TrustDeskModel_vote_51 f_TrustDeskModel_122_13 ?_
              refine mv_iload_n d_TrustDeskModel_vote_54 rfl rfl ?_
              refine tr_ialdR (o := o0) (k := 54) I3 q62 t_a63 (by decide) d_TrustDeskModel_vote_55 (vp_in_iff.mpr (by have := R6.1 32 _ _ rfl; have := R6.1 53 _ _ rfl; omega)) (fun v64 e65 => ?_)
              have := R6.a (k := 54) rfl (x1 : Int32).toNatClampNeg
              have := K11 x1.toNatClampNeg (by have := mz_nat9 (i := x1) (by have := R6.1 32 _ _ rfl; have := R6.1 53 _ _ rfl; omega); omega) (by have := mz_nat9 (i := x1) (by have := R6.1 32 _ _ rfl; have := R6.1 53 _ _ rfl; omega); omega)
              refine mv_iconst (v := 1) d_TrustDeskModel_vote_56 (by decide) ?_
              have := mz_hi v64
              refine mv_icmp_neZ (tgt := 83) (a := v64.toInt) (b := 1) d_TrustDeskModel_vote_57 (by decide) rfl (by decide) (fun b66 => ?_) (fun b66 => ?_)
              · refine mv_iconst (v := 0) d_TrustDeskModel_vote_83 (by decide) ?_
                refine mv_istore (lv' := [(4, .int 0), (0, .ref o0), (1, .int x1), (2, .int x2), (3, .int x3)]) d_TrustDeskModel_vote_84 (by decide) rfl ?_
                refine mv_iload d_TrustDeskModel_vote_86 rfl ?_
                refine mv_if_ne_f (tgt := 93) d_TrustDeskModel_vote_88 (by decide) (by decide) ?_
                refine mv_iconst (v := 0) d_TrustDeskModel_vote_91 (by decide) ?_
                exact mv_iret d_TrustDeskModel_vote_92 rfl (by decide) ⟨_, I3, _, rfl, by decide, by decide, R6⟩
              · refine mv_aload_n d_TrustDeskModel_vote_60 rfl rfl ?_
                refine tr_getK (k := 40) q24 d_TrustDeskModel_vote_61 f_TrustDeskModel_88_13 ?_
                refine mv_bipush (v := 100) d_TrustDeskModel_vote_64 (by decide) ?_
                refine mv_aload_n d_TrustDeskModel_vote_66 rfl rfl ?_
                obtain ⟨a68, q67, t_a68⟩ := tm_atR I3 h_o0 (k := 56) rfl
                refine tr_getK q67 d_TrustDeskModel_vote_67 f_TrustDeskModel_128_13 ?_
                refine mv_iload_n d_TrustDeskModel_vote_70 rfl rfl ?_
                refine tr_ialdR (o := o0) (k := 56) I3 q67 t_a68 (by decide) d_TrustDeskModel_vote_71 (vp_in_iff.mpr (by have := R6.1 32 _ _ rfl; have := R6.1 53 _ _ rfl; omega)) (fun v69 e70 => ?_)
                have := K11 x1.toNatClampNeg (by have := mz_nat9 (i := x1) (by have := R6.1 32 _ _ rfl; have := R6.1 53 _ _ rfl; omega); omega) (by have := mz_nat9 (i := x1) (by have := R6.1 32 _ _ rfl; have := R6.1 53 _ _ rfl; omega); omega)
                refine mv_imul d_TrustDeskModel_vote_72 ?_
                refine mv_iload_n d_TrustDeskModel_vote_73 rfl rfl ?_
                refine mv_iadd d_TrustDeskModel_vote_74 ?_
                have b71 : (100 * v69 : Int32).toInt = (100 * v69.toInt) := mz_mul2 (by decide) rfl (by have := R6.1 32 _ _ rfl; have := R6.1 53 _ _ rfl; omega) (by have := R6.1 32 _ _ rfl; have := R6.1 53 _ _ rfl; omega)
                have b72 : ((100 * v69) + x2 : Int32).toInt = ((100 * v69.toInt) + x2.toInt) := mz_add2 b71 rfl (by have := R6.1 32 _ _ rfl; have := R6.1 53 _ _ rfl; omega) (by have := R6.1 32 _ _ rfl; have := R6.1 53 _ _ rfl; omega)
                refine tr_zaldR (o := o0) (k := 40) I3 q24 t_a25 (by decide) d_TrustDeskModel_vote_75 (vp_in_iff.mpr (by have := R6.1 32 _ _ rfl; have := R6.1 53 _ _ rfl; omega)) (fun v73 e74 => ?_)
                have := mz_hi v73
                refine mv_if_eqZ (tgt := 83) (a := v73.toInt) d_TrustDeskModel_vote_76 (by decide) rfl (fun b75 => ?_) (fun b75 => ?_)
                · refine mv_iconst (v := 0) d_TrustDeskModel_vote_83 (by decide) ?_
                  refine mv_istore (lv' := [(4, .int 0), (0, .ref o0), (1, .int x1), (2, .int x2), (3, .int x3)]) d_TrustDeskModel_vote_84 (by decide) rfl ?_
                  refine mv_iload d_TrustDeskModel_vote_86 rfl ?_
                  refine mv_if_ne_f (tgt := 93) d_TrustDeskModel_vote_88 (by decide) (by decide) ?_
                  refine mv_iconst (v := 0) d_TrustDeskModel_vote_91 (by decide) ?_
                  exact mv_iret d_TrustDeskModel_vote_92 rfl (by decide) ⟨_, I3, _, rfl, by decide, by decide, R6⟩
                · refine mv_iconst (v := 1) d_TrustDeskModel_vote_79 (by decide) ?_
                  refine mv_goto (tgt := 84) d_TrustDeskModel_vote_80 (by decide) ?_
                  refine mv_istore (lv' := [(4, .int 1), (0, .ref o0), (1, .int x1), (2, .int x2), (3, .int x3)]) d_TrustDeskModel_vote_84 (by decide) rfl ?_
                  refine mv_iload d_TrustDeskModel_vote_86 rfl ?_
                  refine mv_if_ne_t (tgt := 93) d_TrustDeskModel_vote_88 (by decide) (by decide) ?_
                  refine mv_aload_n d_TrustDeskModel_vote_93 rfl rfl ?_
                  obtain ⟨a77, q76, t_a77⟩ := tm_atR I3 h_o0 (k := 62) rfl
                  refine tr_getK q76 d_TrustDeskModel_vote_94 f_TrustDeskModel_146_13 ?_
                  refine mv_bipush (v := 100) d_TrustDeskModel_vote_97 (by decide) ?_
                  refine mv_iload_n d_TrustDeskModel_vote_99 rfl rfl ?_
                  refine mv_imul d_TrustDeskModel_vote_100 ?_
                  refine mv_iload_n d_TrustDeskModel_vote_101 rfl rfl ?_
                  refine mv_iadd d_TrustDeskModel_vote_102 ?_
                  refine mv_iload_n d_TrustDeskModel_vote_103 rfl rfl ?_
                  have := mz_hi x3
                  refine mv_if_eqZ (tgt := 111) (a := x3.toInt) d_TrustDeskModel_vote_104 (by decide) rfl (fun b78 => ?_) (fun b78 => ?_)
                  · refine mv_iconst (v := 2) d_TrustDeskModel_vote_111 (by decide) ?_
                    have b79 : (100 * x1 : Int32).toInt = (100 * x1.toInt) := mz_mul2 (by decide) rfl (by have := R6.1 32 _ _ rfl; have := R6.1 53 _ _ rfl; omega) (by have := R6.1 32 _ _ rfl; have := R6.1 53 _ _ rfl; omega)
                    have b80 : ((100 * x1) + x2 : Int32).toInt = ((100 * x1.toInt) + x2.toInt) := mz_add2 b79 rfl (by have := R6.1 32 _ _ rfl; have := R6.1 53 _ _ rfl; omega) (by have := R6.1 32 _ _ rfl; have := R6.1 53 _ _ rfl; omega)
                    refine tr_iastR (k := 62) I3 R6 (I3.up h_o0) q76 t_a77 (by decide) (by decide) (fun lo hi h => by cases h) (Or.inl (by decide)) d_TrustDeskModel_vote_112 (vp_in_iff.mpr (by have := R6.1 32 _ _ rfl; have := R6.1 53 _ _ rfl; omega)) (fun M81 I82 K83 R84 E85 A86 V87 => ?_)
                    have z88 := (V87 32).trans z9
                    have z89 := (V87 53).trans z10
                    have K90 : rX M81 o0 := K11.same (sA_a A86 (by decide +kernel)) (sF_a V87)
                    clear z9 z10
                    refine mv_iconst (v := 1) d_TrustDeskModel_vote_113 (by decide) ?_
                    exact mv_iret d_TrustDeskModel_vote_114 rfl (by decide) ⟨_, I82, _, rfl, by decide, by decide, R84⟩
                  · refine mv_iconst (v := 1) d_TrustDeskModel_vote_107 (by decide) ?_
                    refine mv_goto (tgt := 112) d_TrustDeskModel_vote_108 (by decide) ?_
                    have b91 : (100 * x1 : Int32).toInt = (100 * x1.toInt) := mz_mul2 (by decide) rfl (by have := R6.1 32 _ _ rfl; have := R6.1 53 _ _ rfl; omega) (by have := R6.1 32 _ _ rfl; have := R6.1 53 _ _ rfl; omega)
                    have b92 : ((100 * x1) + x2 : Int32).toInt = ((100 * x1.toInt) + x2.toInt) := mz_add2 b91 rfl (by have := R6.1 32 _ _ rfl; have := R6.1 53 _ _ rfl; omega) (by have := R6.1 32 _ _ rfl; have := R6.1 53 _ _ rfl; omega)
                    refine tr_iastR (k := 62) I3 R6 (I3.up h_o0) q76 t_a77 (by decide) (by decide) (fun lo hi h => by cases h) (Or.inl (by decide)) d_TrustDeskModel_vote_112 (vp_in_iff.mpr (by have := R6.1 32 _ _ rfl; have := R6.1 53 _ _ rfl; omega)) (fun M93 I94 K95 R96 E97 A98 V99 => ?_)
                    have z100 := (V99 32).trans z9
                    have z101 := (V99 53).trans z10
                    have K102 : rX M93 o0 := K11.same (sA_a A98 (by decide +kernel)) (sF_a V99)
                    clear z9 z10
                    refine mv_iconst (v := 1) d_TrustDeskModel_vote_113 (by decide) ?_
                    exact mv_iret d_TrustDeskModel_vote_114 rfl (by decide) ⟨_, I94, _, rfl, by decide, by decide, R96⟩
          · refine mv_iconst (v := 0) d_TrustDeskModel_vote_29 (by decide) ?_
            exact mv_iret d_TrustDeskModel_vote_30 rfl (by decide) ⟨_, I3, _, rfl, by decide, by decide, R6⟩
