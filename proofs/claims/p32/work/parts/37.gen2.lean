abbrev kY_TrustDeskModel_works : mj_Y := (⟨"TrustDeskModel", "works", "(III)I"⟩, prog_14_method_50_code, 8, (Option.some Jvm.ClassFile.FieldType.int))
theorem d_TrustDeskModel_works_0 : decode kY_TrustDeskModel_works.2.1 0 = .ok (.iconst 0, 1) := by decide +kernel
theorem d_TrustDeskModel_works_1 : decode kY_TrustDeskModel_works.2.1 1 = .ok (.istore 4, 2) := by decide +kernel
theorem d_TrustDeskModel_works_3 : decode kY_TrustDeskModel_works.2.1 3 = .ok (.iconst 0, 1) := by decide +kernel
theorem d_TrustDeskModel_works_4 : decode kY_TrustDeskModel_works.2.1 4 = .ok (.istore 5, 2) := by decide +kernel
theorem d_TrustDeskModel_works_6 : decode kY_TrustDeskModel_works.2.1 6 = .ok (.aload_n 0, 1) := by decide +kernel
theorem d_TrustDeskModel_works_7 : decode kY_TrustDeskModel_works.2.1 7 = .ok (.iconst (-1), 1) := by decide +kernel
theorem d_TrustDeskModel_works_8 : decode kY_TrustDeskModel_works.2.1 8 = .ok (.putfield 409, 3) := by decide +kernel
theorem p_TrustDeskModel_409_13 : mj_fp "TrustDeskModel" 409 13 31 (kt_TrustDeskModel 31) false := ⟨kR_TrustDeskModel, kF_TrustDeskModel, 72, "TrustDeskModel", kt_TrustDeskModel, rfl, kg_13, by decide, (mj_in1 (List.mem_of_getElem? (i := 1417) (by decide +kernel)) rfl), Or.inl rfl, kto_TrustDeskModel, kn_TrustDeskModel, rfl, rfl, fun h => by cases h⟩
theorem d_TrustDeskModel_works_11 : decode kY_TrustDeskModel_works.2.1 11 = .ok (.iload_n 2, 1) := by decide +kernel
theorem d_TrustDeskModel_works_12 : decode kY_TrustDeskModel_works.2.1 12 = .ok (.istore 6, 2) := by decide +kernel
theorem d_TrustDeskModel_works_14 : decode kY_TrustDeskModel_works.2.1 14 = .ok (.iload 6, 2) := by decide +kernel
theorem d_TrustDeskModel_works_16 : decode kY_TrustDeskModel_works.2.1 16 = .ok (.iload_n 3, 1) := by decide +kernel
theorem d_TrustDeskModel_works_17 : decode kY_TrustDeskModel_works.2.1 17 = .ok (.if_icmp .ge 175, 3) := by decide +kernel
theorem d_TrustDeskModel_works_192 : decode kY_TrustDeskModel_works.2.1 192 = .ok (.aload_n 0, 1) := by decide +kernel
theorem d_TrustDeskModel_works_193 : decode kY_TrustDeskModel_works.2.1 193 = .ok (.getfield 63, 3) := by decide +kernel
theorem f_TrustDeskModel_63_13 : mj_fl "TrustDeskModel" 63 13 30 := ⟨kR_TrustDeskModel, kF_TrustDeskModel, 72, "TrustDeskModel", rfl, kg_13, by decide, (mj_in1 (List.mem_of_getElem? (i := 1416) (by decide +kernel)) rfl), Or.inl rfl⟩
theorem d_TrustDeskModel_works_196 : decode kY_TrustDeskModel_works.2.1 196 = .ok (.iconst 0, 1) := by decide +kernel
theorem d_TrustDeskModel_works_197 : decode kY_TrustDeskModel_works.2.1 197 = .ok (.iaload, 1) := by decide +kernel
theorem d_TrustDeskModel_works_198 : decode kY_TrustDeskModel_works.2.1 198 = .ok (.ireturn, 1) := by decide +kernel
theorem d_TrustDeskModel_works_20 : decode kY_TrustDeskModel_works.2.1 20 = .ok (.aload_n 0, 1) := by decide +kernel
theorem d_TrustDeskModel_works_21 : decode kY_TrustDeskModel_works.2.1 21 = .ok (.getfield 17, 3) := by decide +kernel
theorem d_TrustDeskModel_works_24 : decode kY_TrustDeskModel_works.2.1 24 = .ok (.sipush 420, 3) := by decide +kernel
theorem d_TrustDeskModel_works_27 : decode kY_TrustDeskModel_works.2.1 27 = .ok (.iload_n 1, 1) := by decide +kernel
theorem d_TrustDeskModel_works_28 : decode kY_TrustDeskModel_works.2.1 28 = .ok (.imul, 1) := by decide +kernel
theorem d_TrustDeskModel_works_29 : decode kY_TrustDeskModel_works.2.1 29 = .ok (.iload 6, 2) := by decide +kernel
theorem d_TrustDeskModel_works_31 : decode kY_TrustDeskModel_works.2.1 31 = .ok (.iadd, 1) := by decide +kernel
theorem d_TrustDeskModel_works_32 : decode kY_TrustDeskModel_works.2.1 32 = .ok (.iaload, 1) := by decide +kernel
theorem d_TrustDeskModel_works_33 : decode kY_TrustDeskModel_works.2.1 33 = .ok (.istore 7, 2) := by decide +kernel
theorem d_TrustDeskModel_works_35 : decode kY_TrustDeskModel_works.2.1 35 = .ok (.iload 7, 2) := by decide +kernel
theorem d_TrustDeskModel_works_37 : decode kY_TrustDeskModel_works.2.1 37 = .ok (.ifCond .lt 40, 3) := by decide +kernel
theorem d_TrustDeskModel_works_77 : decode kY_TrustDeskModel_works.2.1 77 = .ok (.iload 7, 2) := by decide +kernel
theorem d_TrustDeskModel_works_79 : decode kY_TrustDeskModel_works.2.1 79 = .ok (.bipush (-9), 2) := by decide +kernel
theorem d_TrustDeskModel_works_81 : decode kY_TrustDeskModel_works.2.1 81 = .ok (.if_icmp .ne 26, 3) := by decide +kernel
theorem d_TrustDeskModel_works_107 : decode kY_TrustDeskModel_works.2.1 107 = .ok (.iinc 4 (-1), 3) := by decide +kernel
theorem d_TrustDeskModel_works_110 : decode kY_TrustDeskModel_works.2.1 110 = .ok (.aload_n 0, 1) := by decide +kernel
theorem d_TrustDeskModel_works_111 : decode kY_TrustDeskModel_works.2.1 111 = .ok (.getfield 63, 3) := by decide +kernel
theorem d_TrustDeskModel_works_114 : decode kY_TrustDeskModel_works.2.1 114 = .ok (.iload 4, 2) := by decide +kernel
theorem d_TrustDeskModel_works_116 : decode kY_TrustDeskModel_works.2.1 116 = .ok (.iconst 1, 1) := by decide +kernel
theorem d_TrustDeskModel_works_117 : decode kY_TrustDeskModel_works.2.1 117 = .ok (.isub, 1) := by decide +kernel
theorem d_TrustDeskModel_works_118 : decode kY_TrustDeskModel_works.2.1 118 = .ok (.iload 7, 2) := by decide +kernel
theorem d_TrustDeskModel_works_120 : decode kY_TrustDeskModel_works.2.1 120 = .ok (.aload_n 0, 1) := by decide +kernel
theorem d_TrustDeskModel_works_121 : decode kY_TrustDeskModel_works.2.1 121 = .ok (.getfield 63, 3) := by decide +kernel
theorem d_TrustDeskModel_works_124 : decode kY_TrustDeskModel_works.2.1 124 = .ok (.iload 4, 2) := by decide +kernel
theorem d_TrustDeskModel_works_126 : decode kY_TrustDeskModel_works.2.1 126 = .ok (.iconst 1, 1) := by decide +kernel
theorem d_TrustDeskModel_works_127 : decode kY_TrustDeskModel_works.2.1 127 = .ok (.isub, 1) := by decide +kernel
theorem d_TrustDeskModel_works_128 : decode kY_TrustDeskModel_works.2.1 128 = .ok (.iaload, 1) := by decide +kernel
theorem d_TrustDeskModel_works_129 : decode kY_TrustDeskModel_works.2.1 129 = .ok (.aload_n 0, 1) := by decide +kernel
theorem d_TrustDeskModel_works_130 : decode kY_TrustDeskModel_works.2.1 130 = .ok (.getfield 63, 3) := by decide +kernel
theorem d_TrustDeskModel_works_133 : decode kY_TrustDeskModel_works.2.1 133 = .ok (.iload 4, 2) := by decide +kernel
theorem d_TrustDeskModel_works_135 : decode kY_TrustDeskModel_works.2.1 135 = .ok (.iaload, 1) := by decide +kernel
theorem d_TrustDeskModel_works_136 : decode kY_TrustDeskModel_works.2.1 136 = .ok (.invokestatic 412, 3) := by decide +kernel
abbrev kY_TrustDeskModel_joined : mj_Y := (⟨"TrustDeskModel", "joined", "(III)I"⟩, prog_14_method_49_code, 3, (Option.some Jvm.ClassFile.FieldType.int))
theorem d_TrustDeskModel_joined_0 : decode kY_TrustDeskModel_joined.2.1 0 = .ok (.iload_n 0, 1) := by decide +kernel
theorem d_TrustDeskModel_joined_1 : decode kY_TrustDeskModel_joined.2.1 1 = .ok (.tableswitch 107 (-7) (-1) #[103, 92, 81, 70, 61, 52, 43], 43) := by decide +kernel
theorem d_TrustDeskModel_joined_108 : decode kY_TrustDeskModel_joined.2.1 108 = .ok (.iload_n 1, 1) := by decide +kernel
theorem d_TrustDeskModel_joined_109 : decode kY_TrustDeskModel_joined.2.1 109 = .ok (.iload_n 2, 1) := by decide +kernel
theorem d_TrustDeskModel_joined_110 : decode kY_TrustDeskModel_joined.2.1 110 = .ok (.iadd, 1) := by decide +kernel
theorem d_TrustDeskModel_joined_111 : decode kY_TrustDeskModel_joined.2.1 111 = .ok (.ifCond .le 7, 3) := by decide +kernel
theorem d_TrustDeskModel_joined_118 : decode kY_TrustDeskModel_joined.2.1 118 = .ok (.iconst 0, 1) := by decide +kernel
theorem d_TrustDeskModel_joined_119 : decode kY_TrustDeskModel_joined.2.1 119 = .ok (.ireturn, 1) := by decide +kernel
theorem d_TrustDeskModel_joined_114 : decode kY_TrustDeskModel_joined.2.1 114 = .ok (.iconst 1, 1) := by decide +kernel
theorem d_TrustDeskModel_joined_115 : decode kY_TrustDeskModel_joined.2.1 115 = .ok (.goto 4, 3) := by decide +kernel
theorem d_TrustDeskModel_joined_104 : decode kY_TrustDeskModel_joined.2.1 104 = .ok (.iload_n 1, 1) := by decide +kernel
theorem d_TrustDeskModel_joined_105 : decode kY_TrustDeskModel_joined.2.1 105 = .ok (.iload_n 2, 1) := by decide +kernel
theorem d_TrustDeskModel_joined_106 : decode kY_TrustDeskModel_joined.2.1 106 = .ok (.imul, 1) := by decide +kernel
theorem d_TrustDeskModel_joined_107 : decode kY_TrustDeskModel_joined.2.1 107 = .ok (.ireturn, 1) := by decide +kernel
theorem d_TrustDeskModel_joined_93 : decode kY_TrustDeskModel_joined.2.1 93 = .ok (.iload_n 1, 1) := by decide +kernel
theorem d_TrustDeskModel_joined_94 : decode kY_TrustDeskModel_joined.2.1 94 = .ok (.iload_n 2, 1) := by decide +kernel
theorem d_TrustDeskModel_joined_95 : decode kY_TrustDeskModel_joined.2.1 95 = .ok (.if_icmp .ne 7, 3) := by decide +kernel
theorem d_TrustDeskModel_joined_102 : decode kY_TrustDeskModel_joined.2.1 102 = .ok (.iconst 0, 1) := by decide +kernel
theorem d_TrustDeskModel_joined_103 : decode kY_TrustDeskModel_joined.2.1 103 = .ok (.ireturn, 1) := by decide +kernel
theorem d_TrustDeskModel_joined_98 : decode kY_TrustDeskModel_joined.2.1 98 = .ok (.iconst 1, 1) := by decide +kernel
theorem d_TrustDeskModel_joined_99 : decode kY_TrustDeskModel_joined.2.1 99 = .ok (.goto 4, 3) := by decide +kernel
theorem d_TrustDeskModel_joined_82 : decode kY_TrustDeskModel_joined.2.1 82 = .ok (.iload_n 1, 1) := by decide +kernel
theorem d_TrustDeskModel_joined_83 : decode kY_TrustDeskModel_joined.2.1 83 = .ok (.iload_n 2, 1) := by decide +kernel
theorem d_TrustDeskModel_joined_84 : decode kY_TrustDeskModel_joined.2.1 84 = .ok (.if_icmp .le 7, 3) := by decide +kernel
theorem d_TrustDeskModel_joined_91 : decode kY_TrustDeskModel_joined.2.1 91 = .ok (.iconst 0, 1) := by decide +kernel
theorem d_TrustDeskModel_joined_92 : decode kY_TrustDeskModel_joined.2.1 92 = .ok (.ireturn, 1) := by decide +kernel
theorem d_TrustDeskModel_joined_87 : decode kY_TrustDeskModel_joined.2.1 87 = .ok (.iconst 1, 1) := by decide +kernel
theorem d_TrustDeskModel_joined_88 : decode kY_TrustDeskModel_joined.2.1 88 = .ok (.goto 4, 3) := by decide +kernel
theorem d_TrustDeskModel_joined_71 : decode kY_TrustDeskModel_joined.2.1 71 = .ok (.iload_n 1, 1) := by decide +kernel
theorem d_TrustDeskModel_joined_72 : decode kY_TrustDeskModel_joined.2.1 72 = .ok (.iload_n 2, 1) := by decide +kernel
theorem d_TrustDeskModel_joined_73 : decode kY_TrustDeskModel_joined.2.1 73 = .ok (.if_icmp .ge 7, 3) := by decide +kernel
theorem d_TrustDeskModel_joined_80 : decode kY_TrustDeskModel_joined.2.1 80 = .ok (.iconst 0, 1) := by decide +kernel
theorem d_TrustDeskModel_joined_81 : decode kY_TrustDeskModel_joined.2.1 81 = .ok (.ireturn, 1) := by decide +kernel
theorem d_TrustDeskModel_joined_76 : decode kY_TrustDeskModel_joined.2.1 76 = .ok (.iconst 1, 1) := by decide +kernel
theorem d_TrustDeskModel_joined_77 : decode kY_TrustDeskModel_joined.2.1 77 = .ok (.goto 4, 3) := by decide +kernel
theorem d_TrustDeskModel_joined_62 : decode kY_TrustDeskModel_joined.2.1 62 = .ok (.iload_n 1, 1) := by decide +kernel
theorem d_TrustDeskModel_joined_63 : decode kY_TrustDeskModel_joined.2.1 63 = .ok (.i2l, 1) := by decide +kernel
theorem d_TrustDeskModel_joined_64 : decode kY_TrustDeskModel_joined.2.1 64 = .ok (.iload_n 2, 1) := by decide +kernel
theorem d_TrustDeskModel_joined_65 : decode kY_TrustDeskModel_joined.2.1 65 = .ok (.i2l, 1) := by decide +kernel
theorem d_TrustDeskModel_joined_66 : decode kY_TrustDeskModel_joined.2.1 66 = .ok (.lmul, 1) := by decide +kernel
theorem d_TrustDeskModel_joined_67 : decode kY_TrustDeskModel_joined.2.1 67 = .ok (.invokestatic 405, 3) := by decide +kernel
theorem d_TrustDeskModel_joined_70 : decode kY_TrustDeskModel_joined.2.1 70 = .ok (.ireturn, 1) := by decide +kernel
theorem d_TrustDeskModel_joined_53 : decode kY_TrustDeskModel_joined.2.1 53 = .ok (.iload_n 1, 1) := by decide +kernel
theorem d_TrustDeskModel_joined_54 : decode kY_TrustDeskModel_joined.2.1 54 = .ok (.i2l, 1) := by decide +kernel
theorem d_TrustDeskModel_joined_55 : decode kY_TrustDeskModel_joined.2.1 55 = .ok (.iload_n 2, 1) := by decide +kernel
theorem d_TrustDeskModel_joined_56 : decode kY_TrustDeskModel_joined.2.1 56 = .ok (.i2l, 1) := by decide +kernel
theorem d_TrustDeskModel_joined_57 : decode kY_TrustDeskModel_joined.2.1 57 = .ok (.lsub, 1) := by decide +kernel
theorem d_TrustDeskModel_joined_58 : decode kY_TrustDeskModel_joined.2.1 58 = .ok (.invokestatic 405, 3) := by decide +kernel
theorem d_TrustDeskModel_joined_61 : decode kY_TrustDeskModel_joined.2.1 61 = .ok (.ireturn, 1) := by decide +kernel
theorem d_TrustDeskModel_joined_44 : decode kY_TrustDeskModel_joined.2.1 44 = .ok (.iload_n 1, 1) := by decide +kernel
theorem d_TrustDeskModel_joined_45 : decode kY_TrustDeskModel_joined.2.1 45 = .ok (.i2l, 1) := by decide +kernel
theorem d_TrustDeskModel_joined_46 : decode kY_TrustDeskModel_joined.2.1 46 = .ok (.iload_n 2, 1) := by decide +kernel
theorem d_TrustDeskModel_joined_47 : decode kY_TrustDeskModel_joined.2.1 47 = .ok (.i2l, 1) := by decide +kernel
theorem d_TrustDeskModel_joined_48 : decode kY_TrustDeskModel_joined.2.1 48 = .ok (.ladd, 1) := by decide +kernel
theorem d_TrustDeskModel_joined_49 : decode kY_TrustDeskModel_joined.2.1 49 = .ok (.invokestatic 405, 3) := by decide +kernel
theorem d_TrustDeskModel_joined_52 : decode kY_TrustDeskModel_joined.2.1 52 = .ok (.ireturn, 1) := by decide +kernel
def w_TrustDeskModel_joined : List Nat := []
theorem tc_TrustDeskModel_joined {g : mj_G} {l : Launch} {d : Nat} {T0 : tm_H} {M0 : mj_M} {n0 x9 : Nat} {x1 : Int32} {x2 : Int32} {x3 : Int32} (I0 : tm_I tm_FT (tm_in w_TrustDeskModel_joined) x9 T0 M0 n0 T0 M0 n0) : mj_Met g l kY_TrustDeskModel_joined (d + 1) [.int x1, .int x2, .int x3] M0 n0 0 0 (tm_Q tm_FT (tm_in w_TrustDeskModel_joined) x9 T0 M0 n0 (fun r _ _ => ∃ v : Int32, r = some (.int v))) := by
  refine mj_enter (by decide) (Nat.le_of_ble_eq_true rfl) ?_
  refine mv_iload_n d_TrustDeskModel_joined_0 rfl rfl ?_
  rcases (show (x1.toInt < (-7) ∨ (-1) < x1.toInt) ∨ x1.toInt = (-7) ∨ x1.toInt = (-6) ∨ x1.toInt = (-5) ∨ x1.toInt = (-4) ∨ x1.toInt = (-3) ∨ x1.toInt = (-2) ∨ x1.toInt = (-1) by omega) with b1 | b1 | b1 | b1 | b1 | b1 | b1 | b1
  · refine mv_tableOut (tgt := 108) d_TrustDeskModel_joined_1 b1 (by decide) ?_
    refine mv_iload_n d_TrustDeskModel_joined_108 rfl rfl ?_
    refine mv_iload_n d_TrustDeskModel_joined_109 rfl rfl ?_
    refine mv_iadd d_TrustDeskModel_joined_110 ?_
    have := mz_hi (x2 + x3)
    refine mv_if_leZ (tgt := 118) (a := (x2 + x3).toInt) d_TrustDeskModel_joined_111 (by decide) rfl (fun b2 => ?_) (fun b2 => ?_)
    · refine mv_iconst (v := 0) d_TrustDeskModel_joined_118 (by decide) ?_
      exact mv_iret d_TrustDeskModel_joined_119 rfl (by first | rfl | decide) ⟨_, I0, _, rfl⟩
    · refine mv_iconst (v := 1) d_TrustDeskModel_joined_114 (by decide) ?_
      refine mv_goto (tgt := 119) d_TrustDeskModel_joined_115 (by decide) ?_
      exact mv_iret d_TrustDeskModel_joined_119 rfl (by first | rfl | decide) ⟨_, I0, _, rfl⟩
  · refine mv_tableIn (tgt := 104) (off := 103) d_TrustDeskModel_joined_1 (by omega) (by omega) (by rw [b1]; rfl) (by decide) ?_
    refine mv_iload_n d_TrustDeskModel_joined_104 rfl rfl ?_
    refine mv_iload_n d_TrustDeskModel_joined_105 rfl rfl ?_
    refine mv_imul d_TrustDeskModel_joined_106 ?_
    exact mv_iret d_TrustDeskModel_joined_107 rfl (by first | rfl | decide) ⟨_, I0, _, rfl⟩
  · refine mv_tableIn (tgt := 93) (off := 92) d_TrustDeskModel_joined_1 (by omega) (by omega) (by rw [b1]; rfl) (by decide) ?_
    refine mv_iload_n d_TrustDeskModel_joined_93 rfl rfl ?_
    refine mv_iload_n d_TrustDeskModel_joined_94 rfl rfl ?_
    have := mz_hi x2
    have := mz_hi x3
    refine mv_icmp_neZ (tgt := 102) (a := x2.toInt) (b := x3.toInt) d_TrustDeskModel_joined_95 (by decide) rfl rfl (fun b3 => ?_) (fun b3 => ?_)
    · refine mv_iconst (v := 0) d_TrustDeskModel_joined_102 (by decide) ?_
      exact mv_iret d_TrustDeskModel_joined_103 rfl (by first | rfl | decide) ⟨_, I0, _, rfl⟩
    · refine mv_iconst (v := 1) d_TrustDeskModel_joined_98 (by decide) ?_
      refine mv_goto (tgt := 103) d_TrustDeskModel_joined_99 (by decide) ?_
      exact mv_iret d_TrustDeskModel_joined_103 rfl (by first | rfl | decide) ⟨_, I0, _, rfl⟩
  · refine mv_tableIn (tgt := 82) (off := 81) d_TrustDeskModel_joined_1 (by omega) (by omega) (by rw [b1]; rfl) (by decide) ?_
    refine mv_iload_n d_TrustDeskModel_joined_82 rfl rfl ?_
    refine mv_iload_n d_TrustDeskModel_joined_83 rfl rfl ?_
    have := mz_hi x2
    have := mz_hi x3
    refine mv_icmp_leZ (tgt := 91) (a := x2.toInt) (b := x3.toInt) d_TrustDeskModel_joined_84 (by decide) rfl rfl (fun b4 => ?_) (fun b4 => ?_)
    · refine mv_iconst (v := 0) d_TrustDeskModel_joined_91 (by decide) ?_
      exact mv_iret d_TrustDeskModel_joined_92 rfl (by first | rfl | decide) ⟨_, I0, _, rfl⟩
    · refine mv_iconst (v := 1) d_TrustDeskModel_joined_87 (by decide) ?_
      refine mv_goto (tgt := 92) d_TrustDeskModel_joined_88 (by decide) ?_
      exact mv_iret d_TrustDeskModel_joined_92 rfl (by first | rfl | decide) ⟨_, I0, _, rfl⟩
  · refine mv_tableIn (tgt := 71) (off := 70) d_TrustDeskModel_joined_1 (by omega) (by omega) (by rw [b1]; rfl) (by decide) ?_
    refine mv_iload_n d_TrustDeskModel_joined_71 rfl rfl ?_
    refine mv_iload_n d_TrustDeskModel_joined_72 rfl rfl ?_
    have := mz_hi x2
    have := mz_hi x3
    refine mv_icmp_geZ (tgt := 80) (a := x2.toInt) (b := x3.toInt) d_TrustDeskModel_joined_73 (by decide) rfl rfl (fun b5 => ?_) (fun b5 => ?_)
    · refine mv_iconst (v := 0) d_TrustDeskModel_joined_80 (by decide) ?_
      exact mv_iret d_TrustDeskModel_joined_81 rfl (by first | rfl | decide) ⟨_, I0, _, rfl⟩
    · refine mv_iconst (v := 1) d_TrustDeskModel_joined_76 (by decide) ?_
      refine mv_goto (tgt := 81) d_TrustDeskModel_joined_77 (by decide) ?_
      exact mv_iret d_TrustDeskModel_joined_81 rfl (by first | rfl | decide) ⟨_, I0, _, rfl⟩
  · refine mv_tableIn (tgt := 62) (off := 61) d_TrustDeskModel_joined_1 (by omega) (by omega) (by rw [b1]; rfl) (by decide) ?_
    refine mv_iload_n d_TrustDeskModel_joined_62 rfl rfl ?_
    refine mv_i2l (v := x2.toInt64) d_TrustDeskModel_joined_63 rfl ?_
    refine mv_iload_n d_TrustDeskModel_joined_64 rfl rfl ?_
    refine mv_i2l (v := x3.toInt64) d_TrustDeskModel_joined_65 rfl ?_
    refine mv_lmul d_TrustDeskModel_joined_66 ?_
    refine mv_callS (kc' := 0) (ks' := 0) (As := [.long (x2.toInt64 * x3.toInt64)]) (st9 := [.long (x2.toInt64 * x3.toInt64)]) d_TrustDeskModel_joined_67 lS_TrustDeskModel_405 (tc_TrustDeskModel_bounded (d := d) (x9 := x9) (x1 := (x2.toInt64 * x3.toInt64))  I0.start) rfl (Nat.le_of_ble_eq_true rfl) (Nat.le_of_ble_eq_true rfl) (Nat.le_of_ble_eq_true rfl) (hst := rfl) (fun b6r M7 n8 b6 => ?_)
    obtain ⟨T9, J10, v12, rfl⟩ := b6
    have I11 := I0.call J10 (tm_sub (by decide)) (Or.inl rfl)
    exact mv_iret d_TrustDeskModel_joined_70 rfl (by first | rfl | decide) ⟨_, I11, _, rfl⟩
  · refine mv_tableIn (tgt := 53) (off := 52) d_TrustDeskModel_joined_1 (by omega) (by omega) (by rw [b1]; rfl) (by decide) ?_
    refine mv_iload_n d_TrustDeskModel_joined_53 rfl rfl ?_
    refine mv_i2l (v := x2.toInt64) d_TrustDeskModel_joined_54 rfl ?_
    refine mv_iload_n d_TrustDeskModel_joined_55 rfl rfl ?_
    refine mv_i2l (v := x3.toInt64) d_TrustDeskModel_joined_56 rfl ?_
    refine mv_lsub d_TrustDeskModel_joined_57 ?_
    refine mv_callS (kc' := 0) (ks' := 0) (As := [.long (x2.toInt64 - x3.toInt64)]) (st9 := [.long (x2.toInt64 - x3.toInt64)]) d_TrustDeskModel_joined_58 lS_TrustDeskModel_405 (tc_TrustDeskModel_bounded (d := d) (x9 := x9) (x1 := (x2.toInt64 - x3.toInt64))  I0.start) rfl (Nat.le_of_ble_eq_true rfl) (Nat.le_of_ble_eq_true rfl) (Nat.le_of_ble_eq_true rfl) (hst := rfl) (fun b13r M14 n15 b13 => ?_)
    obtain ⟨T16, J17, v19, rfl⟩ := b13
    have I18 := I0.call J17 (tm_sub (by decide)) (Or.inl rfl)
    exact mv_iret d_TrustDeskModel_joined_61 rfl (by first | rfl | decide) ⟨_, I18, _, rfl⟩
  · refine mv_tableIn (tgt := 44) (off := 43) d_TrustDeskModel_joined_1 (by omega) (by omega) (by rw [b1]; rfl) (by decide) ?_
    refine mv_iload_n d_TrustDeskModel_joined_44 rfl rfl ?_
    refine mv_i2l (v := x2.toInt64) d_TrustDeskModel_joined_45 rfl ?_
    refine mv_iload_n d_TrustDeskModel_joined_46 rfl rfl ?_
    refine mv_i2l (v := x3.toInt64) d_TrustDeskModel_joined_47 rfl ?_
    refine mv_ladd d_TrustDeskModel_joined_48 ?_
    refine mv_callS (kc' := 0) (ks' := 0) (As := [.long (x2.toInt64 + x3.toInt64)]) (st9 := [.long (x2.toInt64 + x3.toInt64)]) d_TrustDeskModel_joined_49 lS_TrustDeskModel_405 (tc_TrustDeskModel_bounded (d := d) (x9 := x9) (x1 := (x2.toInt64 + x3.toInt64))  I0.start) rfl (Nat.le_of_ble_eq_true rfl) (Nat.le_of_ble_eq_true rfl) (Nat.le_of_ble_eq_true rfl) (hst := rfl) (fun b20r M21 n22 b20 => ?_)
    obtain ⟨T23, J24, v26, rfl⟩ := b20
    have I25 := I0.call J24 (tm_sub (by decide)) (Or.inl rfl)
    exact mv_iret d_TrustDeskModel_joined_52 rfl (by first | rfl | decide) ⟨_, I25, _, rfl⟩
theorem lS_TrustDeskModel_412 : mj_lS "TrustDeskModel" 412 kY_TrustDeskModel_joined 3 := ⟨⟨(mj_in1 (List.mem_of_getElem? (i := 1868) (by decide +kernel)) rfl), (mj_in1 (List.mem_of_getElem? (i := 10) (by decide +kernel)) rfl), (mj_in1 (List.mem_of_getElem? (i := 1870) (by decide +kernel)) rfl), by decide, rfl, by decide⟩, (mj_in1 (List.mem_of_getElem? (i := 1869) (by decide +kernel)) rfl)⟩
theorem d_TrustDeskModel_works_139 : decode kY_TrustDeskModel_works.2.1 139 = .ok (.iastore, 1) := by decide +kernel
theorem d_TrustDeskModel_works_140 : decode kY_TrustDeskModel_works.2.1 140 = .ok (.iload 7, 2) := by decide +kernel
theorem d_TrustDeskModel_works_142 : decode kY_TrustDeskModel_works.2.1 142 = .ok (.bipush (-4), 2) := by decide +kernel
theorem d_TrustDeskModel_works_144 : decode kY_TrustDeskModel_works.2.1 144 = .ok (.if_icmp .gt 42, 3) := by decide +kernel
theorem d_TrustDeskModel_works_186 : decode kY_TrustDeskModel_works.2.1 186 = .ok (.iinc 6 1, 3) := by decide +kernel
theorem d_TrustDeskModel_works_189 : decode kY_TrustDeskModel_works.2.1 189 = .ok (.goto (-175), 3) := by decide +kernel
theorem d_TrustDeskModel_works_147 : decode kY_TrustDeskModel_works.2.1 147 = .ok (.iload 7, 2) := by decide +kernel
theorem d_TrustDeskModel_works_149 : decode kY_TrustDeskModel_works.2.1 149 = .ok (.bipush (-6), 2) := by decide +kernel
theorem d_TrustDeskModel_works_151 : decode kY_TrustDeskModel_works.2.1 151 = .ok (.if_icmp .ge 6, 3) := by decide +kernel
theorem d_TrustDeskModel_works_157 : decode kY_TrustDeskModel_works.2.1 157 = .ok (.aload_n 0, 1) := by decide +kernel
theorem d_TrustDeskModel_works_158 : decode kY_TrustDeskModel_works.2.1 158 = .ok (.getfield 63, 3) := by decide +kernel
theorem d_TrustDeskModel_works_161 : decode kY_TrustDeskModel_works.2.1 161 = .ok (.iload 4, 2) := by decide +kernel
theorem d_TrustDeskModel_works_163 : decode kY_TrustDeskModel_works.2.1 163 = .ok (.iconst 1, 1) := by decide +kernel
theorem d_TrustDeskModel_works_164 : decode kY_TrustDeskModel_works.2.1 164 = .ok (.isub, 1) := by decide +kernel
theorem d_TrustDeskModel_works_165 : decode kY_TrustDeskModel_works.2.1 165 = .ok (.iaload, 1) := by decide +kernel
theorem d_TrustDeskModel_works_166 : decode kY_TrustDeskModel_works.2.1 166 = .ok (.ifCond .ne 17, 3) := by decide +kernel
theorem d_TrustDeskModel_works_183 : decode kY_TrustDeskModel_works.2.1 183 = .ok (.iinc 5 1, 3) := by decide +kernel
theorem d_TrustDeskModel_works_169 : decode kY_TrustDeskModel_works.2.1 169 = .ok (.aload_n 0, 1) := by decide +kernel
theorem d_TrustDeskModel_works_170 : decode kY_TrustDeskModel_works.2.1 170 = .ok (.getfield 409, 3) := by decide +kernel
theorem f_TrustDeskModel_409_13 : mj_fl "TrustDeskModel" 409 13 31 := ⟨kR_TrustDeskModel, kF_TrustDeskModel, 72, "TrustDeskModel", rfl, kg_13, by decide, (mj_in1 (List.mem_of_getElem? (i := 1417) (by decide +kernel)) rfl), Or.inl rfl⟩
theorem d_TrustDeskModel_works_173 : decode kY_TrustDeskModel_works.2.1 173 = .ok (.iconst (-1), 1) := by decide +kernel
theorem d_TrustDeskModel_works_174 : decode kY_TrustDeskModel_works.2.1 174 = .ok (.if_icmp .ne 9, 3) := by decide +kernel
theorem d_TrustDeskModel_works_177 : decode kY_TrustDeskModel_works.2.1 177 = .ok (.aload_n 0, 1) := by decide +kernel
theorem d_TrustDeskModel_works_178 : decode kY_TrustDeskModel_works.2.1 178 = .ok (.iload 5, 2) := by decide +kernel
theorem d_TrustDeskModel_works_180 : decode kY_TrustDeskModel_works.2.1 180 = .ok (.putfield 409, 3) := by decide +kernel
theorem d_TrustDeskModel_works_154 : decode kY_TrustDeskModel_works.2.1 154 = .ok (.goto 32, 3) := by decide +kernel
theorem d_TrustDeskModel_works_84 : decode kY_TrustDeskModel_works.2.1 84 = .ok (.aload_n 0, 1) := by decide +kernel
theorem d_TrustDeskModel_works_85 : decode kY_TrustDeskModel_works.2.1 85 = .ok (.getfield 63, 3) := by decide +kernel
theorem d_TrustDeskModel_works_88 : decode kY_TrustDeskModel_works.2.1 88 = .ok (.iload 4, 2) := by decide +kernel
theorem d_TrustDeskModel_works_90 : decode kY_TrustDeskModel_works.2.1 90 = .ok (.iconst 1, 1) := by decide +kernel
theorem d_TrustDeskModel_works_91 : decode kY_TrustDeskModel_works.2.1 91 = .ok (.isub, 1) := by decide +kernel
theorem d_TrustDeskModel_works_92 : decode kY_TrustDeskModel_works.2.1 92 = .ok (.iconst 1, 1) := by decide +kernel
theorem d_TrustDeskModel_works_93 : decode kY_TrustDeskModel_works.2.1 93 = .ok (.aload_n 0, 1) := by decide +kernel
theorem d_TrustDeskModel_works_94 : decode kY_TrustDeskModel_works.2.1 94 = .ok (.getfield 63, 3) := by decide +kernel
theorem d_TrustDeskModel_works_97 : decode kY_TrustDeskModel_works.2.1 97 = .ok (.iload 4, 2) := by decide +kernel
theorem d_TrustDeskModel_works_99 : decode kY_TrustDeskModel_works.2.1 99 = .ok (.iconst 1, 1) := by decide +kernel
theorem d_TrustDeskModel_works_100 : decode kY_TrustDeskModel_works.2.1 100 = .ok (.isub, 1) := by decide +kernel
theorem d_TrustDeskModel_works_101 : decode kY_TrustDeskModel_works.2.1 101 = .ok (.iaload, 1) := by decide +kernel
theorem d_TrustDeskModel_works_102 : decode kY_TrustDeskModel_works.2.1 102 = .ok (.isub, 1) := by decide +kernel
theorem d_TrustDeskModel_works_103 : decode kY_TrustDeskModel_works.2.1 103 = .ok (.iastore, 1) := by decide +kernel
theorem d_TrustDeskModel_works_104 : decode kY_TrustDeskModel_works.2.1 104 = .ok (.goto 82, 3) := by decide +kernel
theorem d_TrustDeskModel_works_40 : decode kY_TrustDeskModel_works.2.1 40 = .ok (.aload_n 0, 1) := by decide +kernel
theorem d_TrustDeskModel_works_41 : decode kY_TrustDeskModel_works.2.1 41 = .ok (.getfield 63, 3) := by decide +kernel
theorem d_TrustDeskModel_works_44 : decode kY_TrustDeskModel_works.2.1 44 = .ok (.iload 4, 2) := by decide +kernel
theorem d_TrustDeskModel_works_46 : decode kY_TrustDeskModel_works.2.1 46 = .ok (.iload 7, 2) := by decide +kernel
theorem d_TrustDeskModel_works_48 : decode kY_TrustDeskModel_works.2.1 48 = .ok (.sipush 10000, 3) := by decide +kernel
theorem d_TrustDeskModel_works_51 : decode kY_TrustDeskModel_works.2.1 51 = .ok (.if_icmp .lt 17, 3) := by decide +kernel
theorem d_TrustDeskModel_works_68 : decode kY_TrustDeskModel_works.2.1 68 = .ok (.iload 7, 2) := by decide +kernel
theorem d_TrustDeskModel_works_70 : decode kY_TrustDeskModel_works.2.1 70 = .ok (.iastore, 1) := by decide +kernel
theorem d_TrustDeskModel_works_71 : decode kY_TrustDeskModel_works.2.1 71 = .ok (.iinc 4 1, 3) := by decide +kernel
theorem d_TrustDeskModel_works_74 : decode kY_TrustDeskModel_works.2.1 74 = .ok (.goto 112, 3) := by decide +kernel
theorem d_TrustDeskModel_works_54 : decode kY_TrustDeskModel_works.2.1 54 = .ok (.aload_n 0, 1) := by decide +kernel
theorem d_TrustDeskModel_works_55 : decode kY_TrustDeskModel_works.2.1 55 = .ok (.getfield 60, 3) := by decide +kernel
theorem d_TrustDeskModel_works_58 : decode kY_TrustDeskModel_works.2.1 58 = .ok (.iload 7, 2) := by decide +kernel
theorem d_TrustDeskModel_works_60 : decode kY_TrustDeskModel_works.2.1 60 = .ok (.sipush 10000, 3) := by decide +kernel
theorem d_TrustDeskModel_works_63 : decode kY_TrustDeskModel_works.2.1 63 = .ok (.isub, 1) := by decide +kernel
theorem d_TrustDeskModel_works_64 : decode kY_TrustDeskModel_works.2.1 64 = .ok (.iaload, 1) := by decide +kernel
theorem d_TrustDeskModel_works_65 : decode kY_TrustDeskModel_works.2.1 65 = .ok (.goto 5, 3) := by decide +kernel
def w_TrustDeskModel_works_x : List Nat := [1331, 20030]
set_option maxHeartbeats 100000000 in theorem tc_TrustDeskModel_works_x {g : mj_G} {l : Launch} {d : Nat} {T0 : tm_H} {M0 : mj_M} {n0 x9 : Nat} {o0 : Nat} {x1 : Int32} {x2 : Int32} {x3 : Int32} (h_o0 : T0 o0 = some (0, 13, 0)) (hn0 : 0 ≤ x1.toInt ∧ x1.toInt ≤ 43) (yR : rI M0 o0) (y2 : 0 ≤ x2.toInt ∧ x2.toInt ≤ x3.toInt ∧ x3.toInt ≤ 400) (yd : 0 ≤ dq (sT M0 o0 x1.toNatClampNeg) x2.toInt x3.toInt 0) (I0 : tm_I tm_FT (tm_in w_TrustDeskModel_works_x) x9 T0 M0 n0 T0 M0 n0) : mj_Met g l kY_TrustDeskModel_works (d + 2) [.ref o0, .int x1, .int x2, .int x3] M0 n0 0 0 (tm_Q tm_FT (tm_in w_TrustDeskModel_works_x) x9 T0 M0 n0 (fun r _ M => ∃ v : Int32, r = some (.int v) ∧ rI M o0)) := by
  refine mj_enter (by decide) (Nat.le_of_ble_eq_true rfl) ?_
  have K1 : sA [4] M0 M0 o0 := sA.rf
  refine mv_iconst (v := 0) d_TrustDeskModel_works_0 (by decide) ?_
  refine mv_istore (lv' := [(4, .int 0), (0, .ref o0), (1, .int x1), (2, .int x2), (3, .int x3)]) d_TrustDeskModel_works_1 (by decide) rfl ?_
  refine mv_iconst (v := 0) d_TrustDeskModel_works_3 (by decide) ?_
  refine mv_istore (lv' := [(5, .int 0), (4, .int 0), (0, .ref o0), (1, .int x1), (2, .int x2), (3, .int x3)]) d_TrustDeskModel_works_4 (by decide) rfl ?_
  refine mv_aload_n d_TrustDeskModel_works_6 rfl rfl ?_
  refine mv_iconst (v := (-1)) d_TrustDeskModel_works_7 (by decide) ?_
  refine tr_putR (k := 31) I0 yR h_o0 rfl ⟨_, rfl⟩ (fun _ h => by cases h) rfl (fun lo hi h => by cases h) (Or.inl (by decide)) d_TrustDeskModel_works_8 p_TrustDeskModel_409_13 rfl rfl (fun M2 I3 q4 K5 R6 A7 V8 => ?_)
  have K9 : sA [4] M0 M2 o0 := K1.trans (sA_f A7 (by decide))
  refine mv_iload_n d_TrustDeskModel_works_11 rfl rfl ?_
  refine mv_istore (lv' := [(6, .int x2), (5, .int 0), (4, .int 0), (0, .ref o0), (1, .int x1), (2, .int x2), (3, .int x3)]) d_TrustDeskModel_works_12 (by decide) rfl ?_
  have L14_10 : ∀ (k : Nat) (i6_10 : Int32) (i5_10 : Int32) (i4_10 : Int32) (T_10 : tm_H) (M_10 : mj_M) (n_10 : Nat), tm_I tm_FT (tm_in w_TrustDeskModel_works_x) x9 T0 M0 n0 T_10 M_10 n_10 → T_10 o0 = some (0, 13, 0) → x2.toInt ≤ i6_10.toInt → i6_10.toInt ≤ x3.toInt → 0 ≤ i4_10.toInt → i4_10.toInt ≤ i6_10.toInt - x2.toInt → 0 ≤ dq (sT M0 o0 x1.toNatClampNeg) i6_10.toInt x3.toInt i4_10.toInt → (rI M_10 o0) → (sA [4] M0 M_10 o0) → 2147483647 - i6_10.toInt < (k : Int) → mj_V g l kY_TrustDeskModel_works (d + 2) 14 [(6, .int i6_10), (5, .int i5_10), (4, .int i4_10), (0, .ref o0), (1, .int x1), (2, .int x2), (3, .int x3)] [] M_10 n_10 0 0 (tm_Q tm_FT (tm_in w_TrustDeskModel_works_x) x9 T0 M0 n0 (fun r _ M => ∃ v : Int32, r = some (.int v) ∧ rI M o0)) := by
    intro k10
    induction k10 with
    | zero =>
      intro i6_10 i5_10 i4_10 T_10 M_10 n_10 I_10 h_q0_10 iv0_10 iv1_10 iv2_10 iv3_10 iv4_10 kKR_10 kKS4_10 hk10
      have := mz_hi i6_10
      have := kKR_10.1 15 _ _ rfl
      have := kKR_10.1 16 _ _ rfl
      have := kKR_10.1 19 _ _ rfl
      omega
    | succ k10 ih10 =>
      intro i6_10 i5_10 i4_10 T_10 M_10 n_10 I_10 h_q0_10 iv0_10 iv1_10 iv2_10 iv3_10 iv4_10 kKR_10 kKS4_10 hk10
      refine mv_iload d_TrustDeskModel_works_14 rfl ?_
      refine mv_iload_n d_TrustDeskModel_works_16 rfl rfl ?_
      have := mz_hi i6_10
      have := mz_hi x3
      refine mv_icmp_geZ (tgt := 192) (a := i6_10.toInt) (b := x3.toInt) d_TrustDeskModel_works_17 (by decide) rfl rfl (fun b11 => ?_) (fun b11 => ?_)
      · refine mv_aload_n d_TrustDeskModel_works_192 rfl rfl ?_
        obtain ⟨a13, q12, t_a13⟩ := tm_atR I_10 h_q0_10 (k := 30) rfl
        refine tr_getK q12 d_TrustDeskModel_works_193 f_TrustDeskModel_63_13 ?_
        refine mv_iconst (v := 0) d_TrustDeskModel_works_196 (by decide) ?_
        refine tr_ialdR (o := o0) (k := 30) I_10 q12 t_a13 (by decide) d_TrustDeskModel_works_197 (by unfold vp_in; decide) (fun v14 e15 => ?_)
        have : v14.toInt = ra M_10 o0 30 0 := e15
        exact mv_iret d_TrustDeskModel_works_198 rfl (by first | rfl | decide) ⟨_, I_10, _, rfl, kKR_10⟩
      · refine mv_aload_n d_TrustDeskModel_works_20 rfl rfl ?_
        obtain ⟨a17, q16, t_a17⟩ := tm_atR I_10 h_q0_10 (k := 4) rfl
        refine tr_getK q16 d_TrustDeskModel_works_21 f_TrustDeskModel_17_13 ?_
        refine mv_sipush (v := 420) d_TrustDeskModel_works_24 (by decide) ?_
        refine mv_iload_n d_TrustDeskModel_works_27 rfl rfl ?_
        refine mv_imul d_TrustDeskModel_works_28 ?_
        refine mv_iload d_TrustDeskModel_works_29 rfl ?_
        refine mv_iadd d_TrustDeskModel_works_31 ?_
        have b18 : (420 * x1 : Int32).toInt = (420 * x1.toInt) := mz_mul2 (by decide) rfl (by omega) (by omega)
        have b19 : ((420 * x1) + i6_10 : Int32).toInt = ((420 * x1.toInt) + i6_10.toInt) := mz_add2 b18 rfl (by omega) (by omega)
        refine tr_ialdR (o := o0) (k := 4) I_10 q16 t_a17 (by decide) d_TrustDeskModel_works_32 (vp_in_iff.mpr (by omega)) (fun v20 e21 => ?_)
        have := kKR_10.a (k := 4) rfl (((420 * x1) + i6_10) : Int32).toNatClampNeg
        have h22 : ((420 * x1) + i6_10).toNatClampNeg = 420 * x1.toNatClampNeg + i6_10.toInt.toNat := by have := mz_nat9 (i := ((420 * x1) + i6_10)) (by omega); have := mz_nat9 (i := x1) (by omega); omega
        have e23 : v20.toInt = sT M0 o0 x1.toNatClampNeg i6_10.toInt.toNat := by rw [e21, h22]; exact congrFun (kKS4_10 4 rfl) _
        have s24 := dq_step (f := sT M0 o0 x1.toNatClampNeg) (a := i6_10.toInt) (b := x3.toInt) (t := i4_10.toInt) (by omega) (by omega) (by omega) iv4_10
        rw [← e23] at s24
        refine mv_istore (lv' := [(7, .int v20), (6, .int i6_10), (5, .int i5_10), (4, .int i4_10), (0, .ref o0), (1, .int x1), (2, .int x2), (3, .int x3)]) d_TrustDeskModel_works_33 (by decide) rfl ?_
        refine mv_iload d_TrustDeskModel_works_35 rfl ?_
        have := mz_hi v20
        refine mv_if_ltZ (tgt := 77) (a := v20.toInt) d_TrustDeskModel_works_37 (by decide) rfl (fun b25 => ?_) (fun b25 => ?_)
        · refine mv_iload d_TrustDeskModel_works_77 rfl ?_
          refine mv_bipush (v := (-9)) d_TrustDeskModel_works_79 (by decide) ?_
          have := mz_hi v20
          refine mv_icmp_neZ (tgt := 107) (a := v20.toInt) (b := (-9)) d_TrustDeskModel_works_81 (by decide) rfl (by decide) (fun b26 => ?_) (fun b26 => ?_)
          · refine mv_iinc (v := (i4_10 + (-1))) (lv' := [(4, .int (i4_10 + (-1))), (7, .int v20), (6, .int i6_10), (5, .int i5_10), (0, .ref o0), (1, .int x1), (2, .int x2), (3, .int x3)]) d_TrustDeskModel_works_107 rfl rfl (by decide) rfl ?_
            obtain ⟨w27, h28, b29⟩ : ∃ w9 : Int32, (i4_10 + (-1)) = w9 ∧ w9.toInt = i4_10.toInt + (-1) := ⟨_, rfl, mz_add2 rfl (by decide) (by omega) (by omega)⟩
            rw [h28]
            clear h28
            refine mv_aload_n d_TrustDeskModel_works_110 rfl rfl ?_
            obtain ⟨a31, q30, t_a31⟩ := tm_atR I_10 h_q0_10 (k := 30) rfl
            refine tr_getK q30 d_TrustDeskModel_works_111 f_TrustDeskModel_63_13 ?_
            refine mv_iload d_TrustDeskModel_works_114 rfl ?_
            refine mv_iconst (v := 1) d_TrustDeskModel_works_116 (by decide) ?_
            refine mv_isub d_TrustDeskModel_works_117 ?_
            refine mv_iload d_TrustDeskModel_works_118 rfl ?_
            refine mv_aload_n d_TrustDeskModel_works_120 rfl rfl ?_
            refine tr_getK (k := 30) q30 d_TrustDeskModel_works_121 f_TrustDeskModel_63_13 ?_
            refine mv_iload d_TrustDeskModel_works_124 rfl ?_
            refine mv_iconst (v := 1) d_TrustDeskModel_works_126 (by decide) ?_
            refine mv_isub d_TrustDeskModel_works_127 ?_
            have b32 : (w27 - 1 : Int32).toInt = (w27.toInt - 1) := mz_sub2 rfl (by decide) (by omega) (by omega)
            refine tr_ialdR (o := o0) (k := 30) I_10 q30 t_a31 (by decide) d_TrustDeskModel_works_128 (vp_in_iff.mpr (by omega)) (fun v33 e34 => ?_)
            refine mv_aload_n d_TrustDeskModel_works_129 rfl rfl ?_
            refine tr_getK (k := 30) q30 d_TrustDeskModel_works_130 f_TrustDeskModel_63_13 ?_
            refine mv_iload d_TrustDeskModel_works_133 rfl ?_
            refine tr_ialdR (o := o0) (k := 30) I_10 q30 t_a31 (by decide) d_TrustDeskModel_works_135 (vp_in_iff.mpr (by omega)) (fun v35 e36 => ?_)
            refine mv_callS (kc' := 0) (ks' := 0) (As := [.int v20, .int v33, .int v35]) (st9 := [.int v35, .int v33, .int v20, .int (w27 - 1), .ref a31]) d_TrustDeskModel_works_136 lS_TrustDeskModel_412 (tc_TrustDeskModel_joined (d := d) (x9 := x9) (x1 := v20) (x2 := v33) (x3 := v35)  I_10.start) rfl (Nat.le_of_ble_eq_true rfl) (Nat.le_of_ble_eq_true rfl) (Nat.le_of_ble_eq_true rfl) (hst := rfl) (fun b37r M38 n39 b37 => ?_)
            obtain ⟨T40, J41, v43, rfl⟩ := b37
            have I42 := I_10.call J41 (tm_sub (by decide)) (Or.inl rfl)
            have t44 := J41.up h_q0_10
            have t45 := J41.up t_a31
            have R46 := rI_call I_10 J41 (I_10.up h_o0) (fun _ _ => rfl) (fun _ _ => rfl) kKR_10
            have K47 : sA [4] M0 M38 o0 := kKS4_10.trans (sA_c I_10 J41 (I_10.up h_o0) (by decide +kernel))
            have q48 := J41.keep h_q0_10 (by decide) q16
            have t49 := J41.up t_a17
            have q50 := J41.keep h_q0_10 (by decide) q30
            have b51 : (w27 - 1 : Int32).toInt = (w27.toInt - 1) := mz_sub2 rfl (by decide) (by omega) (by omega)
            refine tr_iastR (k := 30) I42 R46 (I42.up h_o0) q50 t45 (by decide) (by decide) (fun lo hi h => by cases h) (Or.inl (by decide)) d_TrustDeskModel_works_139 (vp_in_iff.mpr (by omega)) (fun M52 I53 K54 R55 E56 A57 V58 => ?_)
            have K59 : sA [4] M0 M52 o0 := K47.trans (sA_a A57 (by decide +kernel))
            refine mv_iload d_TrustDeskModel_works_140 rfl ?_
            refine mv_bipush (v := (-4)) d_TrustDeskModel_works_142 (by decide) ?_
            have := mz_hi v20
            refine mv_icmp_gtZ (tgt := 186) (a := v20.toInt) (b := (-4)) d_TrustDeskModel_works_144 (by decide) rfl (by decide) (fun b60 => ?_) (fun b60 => ?_)
            · refine mv_iinc (v := (i6_10 + 1)) (lv' := [(6, .int (i6_10 + 1)), (4, .int w27), (7, .int v20), (5, .int i5_10), (0, .ref o0), (1, .int x1), (2, .int x2), (3, .int x3)]) d_TrustDeskModel_works_186 rfl rfl (by decide) rfl ?_
              refine mv_goto (tgt := 14) d_TrustDeskModel_works_189 (by decide) ?_
              have b61 : (i6_10 + 1 : Int32).toInt = (i6_10.toInt + 1) := mz_add2 rfl (by decide) (by omega) (by omega)
              refine mv_locals (lv' := [(6, .int (i6_10 + 1)), (5, .int i5_10), (4, .int w27), (0, .ref o0), (1, .int x1), (2, .int x2), (3, .int x3)]) (by intro q hq; simp only [List.mem_cons, List.not_mem_nil, or_false] at hq; rcases hq with rfl | rfl | rfl | rfl | rfl | rfl | rfl <;> rfl) ?_
              have b62 : (i6_10 + 1).toInt = i6_10.toInt + 1 := mz_addn 1 1 (by decide) (by have := mz_lo i6_10; omega) (by have := mz_hi i6_10; omega)
              exact (ih10 (i6_10 + 1) i5_10 w27 T40 M52 n39 I53 t44 (by first | omega | decide | exact fun h9 => absurd (by decide) h9) (by first | omega | decide | exact fun h9 => absurd (by decide) h9) (by first | omega | decide | exact fun h9 => absurd (by decide) h9) (by first | omega | decide | exact fun h9 => absurd (by decide) h9) (by rw [show ((i6_10 + 1) : Int32).toInt = i6_10.toInt + 1 from by omega, show (w27 : Int32).toInt = i4_10.toInt - 1 from by omega]; exact (s24.2.2 (by omega) (by omega)).2) R55 K59 (by omega))
            · refine mv_iload d_TrustDeskModel_works_147 rfl ?_
              refine mv_bipush (v := (-6)) d_TrustDeskModel_works_149 (by decide) ?_
              have := mz_hi v20
              refine mv_icmp_geZ (tgt := 157) (a := v20.toInt) (b := (-6)) d_TrustDeskModel_works_151 (by decide) rfl (by decide) (fun b63 => ?_) (fun b63 => ?_)
              · refine mv_aload_n d_TrustDeskModel_works_157 rfl rfl ?_
                refine tr_getK (k := 30) (K54 _ 13 30 _ q50) d_TrustDeskModel_works_158 f_TrustDeskModel_63_13 ?_
                refine mv_iload d_TrustDeskModel_works_161 rfl ?_
                refine mv_iconst (v := 1) d_TrustDeskModel_works_163 (by decide) ?_
                refine mv_isub d_TrustDeskModel_works_164 ?_
                have b64 : (w27 - 1 : Int32).toInt = (w27.toInt - 1) := mz_sub2 rfl (by decide) (by omega) (by omega)
                refine tr_ialdR (o := o0) (k := 30) I53 (K54 _ 13 30 _ q50) t45 (by decide) d_TrustDeskModel_works_165 (vp_in_iff.mpr (by omega)) (fun v65 e66 => ?_)
                have := mz_hi v65
                refine mv_if_neZ (tgt := 183) (a := v65.toInt) d_TrustDeskModel_works_166 (by decide) rfl (fun b67 => ?_) (fun b67 => ?_)
                · refine mv_iinc (v := (i5_10 + 1)) (lv' := [(5, .int (i5_10 + 1)), (4, .int w27), (7, .int v20), (6, .int i6_10), (0, .ref o0), (1, .int x1), (2, .int x2), (3, .int x3)]) d_TrustDeskModel_works_183 rfl rfl (by decide) rfl ?_
                  refine mv_iinc (v := (i6_10 + 1)) (lv' := [(6, .int (i6_10 + 1)), (5, .int (i5_10 + 1)), (4, .int w27), (7, .int v20), (0, .ref o0), (1, .int x1), (2, .int x2), (3, .int x3)]) d_TrustDeskModel_works_186 rfl rfl (by decide) rfl ?_
                  refine mv_goto (tgt := 14) d_TrustDeskModel_works_189 (by decide) ?_
                  have b68 : (i6_10 + 1 : Int32).toInt = (i6_10.toInt + 1) := mz_add2 rfl (by decide) (by omega) (by omega)
                  refine mv_locals (lv' := [(6, .int (i6_10 + 1)), (5, .int (i5_10 + 1)), (4, .int w27), (0, .ref o0), (1, .int x1), (2, .int x2), (3, .int x3)]) (by intro q hq; simp only [List.mem_cons, List.not_mem_nil, or_false] at hq; rcases hq with rfl | rfl | rfl | rfl | rfl | rfl | rfl <;> rfl) ?_
                  have b69 : (i6_10 + 1).toInt = i6_10.toInt + 1 := mz_addn 1 1 (by decide) (by have := mz_lo i6_10; omega) (by have := mz_hi i6_10; omega)
                  exact (ih10 (i6_10 + 1) (i5_10 + 1) w27 T40 M52 n39 I53 t44 (by first | omega | decide | exact fun h9 => absurd (by decide) h9) (by first | omega | decide | exact fun h9 => absurd (by decide) h9) (by first | omega | decide | exact fun h9 => absurd (by decide) h9) (by first | omega | decide | exact fun h9 => absurd (by decide) h9) (by rw [show ((i6_10 + 1) : Int32).toInt = i6_10.toInt + 1 from by omega, show (w27 : Int32).toInt = i4_10.toInt - 1 from by omega]; exact (s24.2.2 (by omega) (by omega)).2) R55 K59 (by omega))
                · refine mv_aload_n d_TrustDeskModel_works_169 rfl rfl ?_
                  obtain ⟨v71, q70⟩ := tm_atI I53 t44 (k := 31) rfl
                  refine tr_getK q70 d_TrustDeskModel_works_170 f_TrustDeskModel_409_13 ?_
                  refine mv_iconst (v := (-1)) d_TrustDeskModel_works_173 (by decide) ?_
                  have := mz_hi v71
                  refine mv_icmp_neZ (tgt := 183) (a := v71.toInt) (b := (-1)) d_TrustDeskModel_works_174 (by decide) rfl (by decide) (fun b72 => ?_) (fun b72 => ?_)
                  · refine mv_iinc (v := (i5_10 + 1)) (lv' := [(5, .int (i5_10 + 1)), (4, .int w27), (7, .int v20), (6, .int i6_10), (0, .ref o0), (1, .int x1), (2, .int x2), (3, .int x3)]) d_TrustDeskModel_works_183 rfl rfl (by decide) rfl ?_
                    refine mv_iinc (v := (i6_10 + 1)) (lv' := [(6, .int (i6_10 + 1)), (5, .int (i5_10 + 1)), (4, .int w27), (7, .int v20), (0, .ref o0), (1, .int x1), (2, .int x2), (3, .int x3)]) d_TrustDeskModel_works_186 rfl rfl (by decide) rfl ?_
                    refine mv_goto (tgt := 14) d_TrustDeskModel_works_189 (by decide) ?_
                    have b73 : (i6_10 + 1 : Int32).toInt = (i6_10.toInt + 1) := mz_add2 rfl (by decide) (by omega) (by omega)
                    refine mv_locals (lv' := [(6, .int (i6_10 + 1)), (5, .int (i5_10 + 1)), (4, .int w27), (0, .ref o0), (1, .int x1), (2, .int x2), (3, .int x3)]) (by intro q hq; simp only [List.mem_cons, List.not_mem_nil, or_false] at hq; rcases hq with rfl | rfl | rfl | rfl | rfl | rfl | rfl <;> rfl) ?_
                    have b74 : (i6_10 + 1).toInt = i6_10.toInt + 1 := mz_addn 1 1 (by decide) (by have := mz_lo i6_10; omega) (by have := mz_hi i6_10; omega)
                    exact (ih10 (i6_10 + 1) (i5_10 + 1) w27 T40 M52 n39 I53 t44 (by first | omega | decide | exact fun h9 => absurd (by decide) h9) (by first | omega | decide | exact fun h9 => absurd (by decide) h9) (by first | omega | decide | exact fun h9 => absurd (by decide) h9) (by first | omega | decide | exact fun h9 => absurd (by decide) h9) (by rw [show ((i6_10 + 1) : Int32).toInt = i6_10.toInt + 1 from by omega, show (w27 : Int32).toInt = i4_10.toInt - 1 from by omega]; exact (s24.2.2 (by omega) (by omega)).2) R55 K59 (by omega))
                  · refine mv_aload_n d_TrustDeskModel_works_177 rfl rfl ?_
                    refine mv_iload d_TrustDeskModel_works_178 rfl ?_
                    refine tr_putR (k := 31) I53 R55 t44 rfl ⟨_, rfl⟩ (fun _ h => by cases h) rfl (fun lo hi h => by cases h) (Or.inl (by decide)) d_TrustDeskModel_works_180 p_TrustDeskModel_409_13 rfl rfl (fun M75 I76 q77 K78 R79 A80 V81 => ?_)
                    have K82 : sA [4] M0 M75 o0 := K59.trans (sA_f A80 (by decide))
                    refine mv_iinc (v := (i5_10 + 1)) (lv' := [(5, .int (i5_10 + 1)), (4, .int w27), (7, .int v20), (6, .int i6_10), (0, .ref o0), (1, .int x1), (2, .int x2), (3, .int x3)]) d_TrustDeskModel_works_183 rfl rfl (by decide) rfl ?_
                    refine mv_iinc (v := (i6_10 + 1)) (lv' := [(6, .int (i6_10 + 1)), (5, .int (i5_10 + 1)), (4, .int w27), (7, .int v20), (0, .ref o0), (1, .int x1), (2, .int x2), (3, .int x3)]) d_TrustDeskModel_works_186 rfl rfl (by decide) rfl ?_
                    refine mv_goto (tgt := 14) d_TrustDeskModel_works_189 (by decide) ?_
                    have b83 : (i6_10 + 1 : Int32).toInt = (i6_10.toInt + 1) := mz_add2 rfl (by decide) (by omega) (by omega)
                    refine mv_locals (lv' := [(6, .int (i6_10 + 1)), (5, .int (i5_10 + 1)), (4, .int w27), (0, .ref o0), (1, .int x1), (2, .int x2), (3, .int x3)]) (by intro q hq; simp only [List.mem_cons, List.not_mem_nil, or_false] at hq; rcases hq with rfl | rfl | rfl | rfl | rfl | rfl | rfl <;> rfl) ?_
                    have b84 : (i6_10 + 1).toInt = i6_10.toInt + 1 := mz_addn 1 1 (by decide) (by have := mz_lo i6_10; omega) (by have := mz_hi i6_10; omega)
                    exact (ih10 (i6_10 + 1) (i5_10 + 1) w27 T40 M75 n39 I76 t44 (by first | omega | decide | exact fun h9 => absurd (by decide) h9) (by first | omega | decide | exact fun h9 => absurd (by decide) h9) (by first | omega | decide | exact fun h9 => absurd (by decide) h9) (by first | omega | decide | exact fun h9 => absurd (by decide) h9) (by rw [show ((i6_10 + 1) : Int32).toInt = i6_10.toInt + 1 from by omega, show (w27 : Int32).toInt = i4_10.toInt - 1 from by omega]; exact (s24.2.2 (by omega) (by omega)).2) R79 K82 (by omega))
              · refine mv_goto (tgt := 186) d_TrustDeskModel_works_154 (by decide) ?_
                refine mv_iinc (v := (i6_10 + 1)) (lv' := [(6, .int (i6_10 + 1)), (4, .int w27), (7, .int v20), (5, .int i5_10), (0, .ref o0), (1, .int x1), (2, .int x2), (3, .int x3)]) d_TrustDeskModel_works_186 rfl rfl (by decide) rfl ?_
                refine mv_goto (tgt := 14) d_TrustDeskModel_works_189 (by decide) ?_
                have b85 : (i6_10 + 1 : Int32).toInt = (i6_10.toInt + 1) := mz_add2 rfl (by decide) (by omega) (by omega)
                refine mv_locals (lv' := [(6, .int (i6_10 + 1)), (5, .int i5_10), (4, .int w27), (0, .ref o0), (1, .int x1), (2, .int x2), (3, .int x3)]) (by intro q hq; simp only [List.mem_cons, List.not_mem_nil, or_false] at hq; rcases hq with rfl | rfl | rfl | rfl | rfl | rfl | rfl <;> rfl) ?_
                have b86 : (i6_10 + 1).toInt = i6_10.toInt + 1 := mz_addn 1 1 (by decide) (by have := mz_lo i6_10; omega) (by have := mz_hi i6_10; omega)
                exact (ih10 (i6_10 + 1) i5_10 w27 T40 M52 n39 I53 t44 (by first | omega | decide | exact fun h9 => absurd (by decide) h9) (by first | omega | decide | exact fun h9 => absurd (by decide) h9) (by first | omega | decide | exact fun h9 => absurd (by decide) h9) (by first | omega | decide | exact fun h9 => absurd (by decide) h9) (by rw [show ((i6_10 + 1) : Int32).toInt = i6_10.toInt + 1 from by omega, show (w27 : Int32).toInt = i4_10.toInt - 1 from by omega]; exact (s24.2.2 (by omega) (by omega)).2) R55 K59 (by omega))
          · refine mv_aload_n d_TrustDeskModel_works_84 rfl rfl ?_
            obtain ⟨a88, q87, t_a88⟩ := tm_atR I_10 h_q0_10 (k := 30) rfl
            refine tr_getK q87 d_TrustDeskModel_works_85 f_TrustDeskModel_63_13 ?_
            refine mv_iload d_TrustDeskModel_works_88 rfl ?_
            refine mv_iconst (v := 1) d_TrustDeskModel_works_90 (by decide) ?_
            refine mv_isub d_TrustDeskModel_works_91 ?_
            refine mv_iconst (v := 1) d_TrustDeskModel_works_92 (by decide) ?_
            refine mv_aload_n d_TrustDeskModel_works_93 rfl rfl ?_
            refine tr_getK (k := 30) q87 d_TrustDeskModel_works_94 f_TrustDeskModel_63_13 ?_
            refine mv_iload d_TrustDeskModel_works_97 rfl ?_
            refine mv_iconst (v := 1) d_TrustDeskModel_works_99 (by decide) ?_
            refine mv_isub d_TrustDeskModel_works_100 ?_
            have b89 : (i4_10 - 1 : Int32).toInt = (i4_10.toInt - 1) := mz_sub2 rfl (by decide) (by omega) (by omega)
            refine tr_ialdR (o := o0) (k := 30) I_10 q87 t_a88 (by decide) d_TrustDeskModel_works_101 (vp_in_iff.mpr (by omega)) (fun v90 e91 => ?_)
            refine mv_isub d_TrustDeskModel_works_102 ?_
            have b92 : (i4_10 - 1 : Int32).toInt = (i4_10.toInt - 1) := mz_sub2 rfl (by decide) (by omega) (by omega)
            refine tr_iastR (k := 30) I_10 kKR_10 (I_10.up h_o0) q87 t_a88 (by decide) (by decide) (fun lo hi h => by cases h) (Or.inl (by decide)) d_TrustDeskModel_works_103 (vp_in_iff.mpr (by omega)) (fun M93 I94 K95 R96 E97 A98 V99 => ?_)
            have K100 : sA [4] M0 M93 o0 := kKS4_10.trans (sA_a A98 (by decide +kernel))
            refine mv_goto (tgt := 186) d_TrustDeskModel_works_104 (by decide) ?_
            refine mv_iinc (v := (i6_10 + 1)) (lv' := [(6, .int (i6_10 + 1)), (7, .int v20), (5, .int i5_10), (4, .int i4_10), (0, .ref o0), (1, .int x1), (2, .int x2), (3, .int x3)]) d_TrustDeskModel_works_186 rfl rfl (by decide) rfl ?_
            refine mv_goto (tgt := 14) d_TrustDeskModel_works_189 (by decide) ?_
            have b101 : (i6_10 + 1 : Int32).toInt = (i6_10.toInt + 1) := mz_add2 rfl (by decide) (by omega) (by omega)
            refine mv_locals (lv' := [(6, .int (i6_10 + 1)), (5, .int i5_10), (4, .int i4_10), (0, .ref o0), (1, .int x1), (2, .int x2), (3, .int x3)]) (by intro q hq; simp only [List.mem_cons, List.not_mem_nil, or_false] at hq; rcases hq with rfl | rfl | rfl | rfl | rfl | rfl | rfl <;> rfl) ?_
            have b102 : (i6_10 + 1).toInt = i6_10.toInt + 1 := mz_addn 1 1 (by decide) (by have := mz_lo i6_10; omega) (by have := mz_hi i6_10; omega)
            exact (ih10 (i6_10 + 1) i5_10 i4_10 T_10 M93 n_10 I94 h_q0_10 (by first | omega | decide | exact fun h9 => absurd (by decide) h9) (by first | omega | decide | exact fun h9 => absurd (by decide) h9) (by first | omega | decide | exact fun h9 => absurd (by decide) h9) (by first | omega | decide | exact fun h9 => absurd (by decide) h9) (by rw [show ((i6_10 + 1) : Int32).toInt = i6_10.toInt + 1 from by omega]; exact (s24.2.1 (by omega)).2) R96 K100 (by omega))
        · refine mv_aload_n d_TrustDeskModel_works_40 rfl rfl ?_
          obtain ⟨a104, q103, t_a104⟩ := tm_atR I_10 h_q0_10 (k := 30) rfl
          refine tr_getK q103 d_TrustDeskModel_works_41 f_TrustDeskModel_63_13 ?_
          refine mv_iload d_TrustDeskModel_works_44 rfl ?_
          refine mv_iload d_TrustDeskModel_works_46 rfl ?_
          refine mv_sipush (v := 10000) d_TrustDeskModel_works_48 (by decide) ?_
          have := mz_hi v20
          refine mv_icmp_ltZ (tgt := 68) (a := v20.toInt) (b := 10000) d_TrustDeskModel_works_51 (by decide) rfl (by decide) (fun b105 => ?_) (fun b105 => ?_)
          · refine mv_iload d_TrustDeskModel_works_68 rfl ?_
            refine tr_iastR (k := 30) I_10 kKR_10 (I_10.up h_o0) q103 t_a104 (by decide) (by decide) (fun lo hi h => by cases h) (Or.inl (by decide)) d_TrustDeskModel_works_70 (vp_in_iff.mpr (by omega)) (fun M106 I107 K108 R109 E110 A111 V112 => ?_)
            have K113 : sA [4] M0 M106 o0 := kKS4_10.trans (sA_a A111 (by decide +kernel))
            refine mv_iinc (v := (i4_10 + 1)) (lv' := [(4, .int (i4_10 + 1)), (7, .int v20), (6, .int i6_10), (5, .int i5_10), (0, .ref o0), (1, .int x1), (2, .int x2), (3, .int x3)]) d_TrustDeskModel_works_71 rfl rfl (by decide) rfl ?_
            refine mv_goto (tgt := 186) d_TrustDeskModel_works_74 (by decide) ?_
            refine mv_iinc (v := (i6_10 + 1)) (lv' := [(6, .int (i6_10 + 1)), (4, .int (i4_10 + 1)), (7, .int v20), (5, .int i5_10), (0, .ref o0), (1, .int x1), (2, .int x2), (3, .int x3)]) d_TrustDeskModel_works_186 rfl rfl (by decide) rfl ?_
            refine mv_goto (tgt := 14) d_TrustDeskModel_works_189 (by decide) ?_
            have b114 : (i6_10 + 1 : Int32).toInt = (i6_10.toInt + 1) := mz_add2 rfl (by decide) (by omega) (by omega)
            have b115 : (i4_10 + 1 : Int32).toInt = (i4_10.toInt + 1) := mz_add2 rfl (by decide) (by omega) (by omega)
            refine mv_locals (lv' := [(6, .int (i6_10 + 1)), (5, .int i5_10), (4, .int (i4_10 + 1)), (0, .ref o0), (1, .int x1), (2, .int x2), (3, .int x3)]) (by intro q hq; simp only [List.mem_cons, List.not_mem_nil, or_false] at hq; rcases hq with rfl | rfl | rfl | rfl | rfl | rfl | rfl <;> rfl) ?_
            have b116 : (i6_10 + 1).toInt = i6_10.toInt + 1 := mz_addn 1 1 (by decide) (by have := mz_lo i6_10; omega) (by have := mz_hi i6_10; omega)
            exact (ih10 (i6_10 + 1) i5_10 (i4_10 + 1) T_10 M106 n_10 I107 h_q0_10 (by first | omega | decide | exact fun h9 => absurd (by decide) h9) (by first | omega | decide | exact fun h9 => absurd (by decide) h9) (by first | omega | decide | exact fun h9 => absurd (by decide) h9) (by first | omega | decide | exact fun h9 => absurd (by decide) h9) (by rw [show ((i6_10 + 1) : Int32).toInt = i6_10.toInt + 1 from by omega, show ((i4_10 + 1) : Int32).toInt = i4_10.toInt + 1 from by omega]; exact s24.1 (by omega)) R109 K113 (by omega))
          · refine mv_aload_n d_TrustDeskModel_works_54 rfl rfl ?_
            obtain ⟨a118, q117, t_a118⟩ := tm_atR I_10 h_q0_10 (k := 29) rfl
            refine tr_getK q117 d_TrustDeskModel_works_55 f_TrustDeskModel_60_13 ?_
            refine mv_iload d_TrustDeskModel_works_58 rfl ?_
            refine mv_sipush (v := 10000) d_TrustDeskModel_works_60 (by decide) ?_
            refine mv_isub d_TrustDeskModel_works_63 ?_
            have b119 : (v20 - 10000 : Int32).toInt = (v20.toInt - 10000) := mz_sub2 rfl (by decide) (by omega) (by omega)
            refine tr_ialdR (o := o0) (k := 29) I_10 q117 t_a118 (by decide) d_TrustDeskModel_works_64 (vp_in_iff.mpr (by omega)) (fun v120 e121 => ?_)
            refine mv_goto (tgt := 70) d_TrustDeskModel_works_65 (by decide) ?_
            refine tr_iastR (k := 30) I_10 kKR_10 (I_10.up h_o0) q103 t_a104 (by decide) (by decide) (fun lo hi h => by cases h) (Or.inl (by decide)) d_TrustDeskModel_works_70 (vp_in_iff.mpr (by omega)) (fun M122 I123 K124 R125 E126 A127 V128 => ?_)
            have K129 : sA [4] M0 M122 o0 := kKS4_10.trans (sA_a A127 (by decide +kernel))
            refine mv_iinc (v := (i4_10 + 1)) (lv' := [(4, .int (i4_10 + 1)), (7, .int v20), (6, .int i6_10), (5, .int i5_10), (0, .ref o0), (1, .int x1), (2, .int x2), (3, .int x3)]) d_TrustDeskModel_works_71 rfl rfl (by decide) rfl ?_
            refine mv_goto (tgt := 186) d_TrustDeskModel_works_74 (by decide) ?_
            refine mv_iinc (v := (i6_10 + 1)) (lv' := [(6, .int (i6_10 + 1)), (4, .int (i4_10 + 1)), (7, .int v20), (5, .int i5_10), (0, .ref o0), (1, .int x1), (2, .int x2), (3, .int x3)]) d_TrustDeskModel_works_186 rfl rfl (by decide) rfl ?_
            refine mv_goto (tgt := 14) d_TrustDeskModel_works_189 (by decide) ?_
            have b130 : (i6_10 + 1 : Int32).toInt = (i6_10.toInt + 1) := mz_add2 rfl (by decide) (by omega) (by omega)
            have b131 : (i4_10 + 1 : Int32).toInt = (i4_10.toInt + 1) := mz_add2 rfl (by decide) (by omega) (by omega)
            refine mv_locals (lv' := [(6, .int (i6_10 + 1)), (5, .int i5_10), (4, .int (i4_10 + 1)), (0, .ref o0), (1, .int x1), (2, .int x2), (3, .int x3)]) (by intro q hq; simp only [List.mem_cons, List.not_mem_nil, or_false] at hq; rcases hq with rfl | rfl | rfl | rfl | rfl | rfl | rfl <;> rfl) ?_
            have b132 : (i6_10 + 1).toInt = i6_10.toInt + 1 := mz_addn 1 1 (by decide) (by have := mz_lo i6_10; omega) (by have := mz_hi i6_10; omega)
            exact (ih10 (i6_10 + 1) i5_10 (i4_10 + 1) T_10 M122 n_10 I123 h_q0_10 (by first | omega | decide | exact fun h9 => absurd (by decide) h9) (by first | omega | decide | exact fun h9 => absurd (by decide) h9) (by first | omega | decide | exact fun h9 => absurd (by decide) h9) (by first | omega | decide | exact fun h9 => absurd (by decide) h9) (by rw [show ((i6_10 + 1) : Int32).toInt = i6_10.toInt + 1 from by omega, show ((i4_10 + 1) : Int32).toInt = i4_10.toInt + 1 from by omega]; exact s24.1 (by omega)) R125 K129 (by omega))
  have : (0 : Int32).toInt = 0 := by decide
  exact mv_less (Nat.zero_le _) (Nat.zero_le _) (L14_10 4294967296 x2 0 0 T0 M2 n0 I3 h_o0 (by first | omega | decide | exact fun h9 => absurd (by decide) h9) (by first | omega | decide | exact fun h9 => absurd (by decide) h9) (by first | omega | decide | exact fun h9 => absurd (by decide) h9) (by first | omega | decide | exact fun h9 => absurd (by decide) h9) (by rw [show (0 : Int32).toInt = 0 from rfl]; exact yd) R6 K9 (by have := mz_lo x2; omega))
abbrev kY_TrustDeskModel_asks : mj_Y := (⟨"TrustDeskModel", "asks", "(II)I"⟩, prog_14_method_60_code, 5, (Option.some Jvm.ClassFile.FieldType.int))
theorem d_TrustDeskModel_asks_0 : decode kY_TrustDeskModel_asks.2.1 0 = .ok (.bipush 80, 2) := by decide +kernel
theorem d_TrustDeskModel_asks_2 : decode kY_TrustDeskModel_asks.2.1 2 = .ok (.iload_n 1, 1) := by decide +kernel
theorem d_TrustDeskModel_asks_3 : decode kY_TrustDeskModel_asks.2.1 3 = .ok (.imul, 1) := by decide +kernel
theorem d_TrustDeskModel_asks_4 : decode kY_TrustDeskModel_asks.2.1 4 = .ok (.iload_n 2, 1) := by decide +kernel
theorem d_TrustDeskModel_asks_5 : decode kY_TrustDeskModel_asks.2.1 5 = .ok (.iadd, 1) := by decide +kernel
theorem d_TrustDeskModel_asks_6 : decode kY_TrustDeskModel_asks.2.1 6 = .ok (.istore_n 3, 1) := by decide +kernel
theorem d_TrustDeskModel_asks_7 : decode kY_TrustDeskModel_asks.2.1 7 = .ok (.aload_n 0, 1) := by decide +kernel
theorem d_TrustDeskModel_asks_8 : decode kY_TrustDeskModel_asks.2.1 8 = .ok (.getfield 104, 3) := by decide +kernel
theorem d_TrustDeskModel_asks_11 : decode kY_TrustDeskModel_asks.2.1 11 = .ok (.iload_n 3, 1) := by decide +kernel
theorem d_TrustDeskModel_asks_12 : decode kY_TrustDeskModel_asks.2.1 12 = .ok (.iaload, 1) := by decide +kernel
theorem d_TrustDeskModel_asks_13 : decode kY_TrustDeskModel_asks.2.1 13 = .ok (.istore 4, 2) := by decide +kernel
theorem d_TrustDeskModel_asks_15 : decode kY_TrustDeskModel_asks.2.1 15 = .ok (.aload_n 0, 1) := by decide +kernel
theorem d_TrustDeskModel_asks_16 : decode kY_TrustDeskModel_asks.2.1 16 = .ok (.aload_n 0, 1) := by decide +kernel
theorem d_TrustDeskModel_asks_17 : decode kY_TrustDeskModel_asks.2.1 17 = .ok (.getfield 101, 3) := by decide +kernel
theorem d_TrustDeskModel_asks_20 : decode kY_TrustDeskModel_asks.2.1 20 = .ok (.iload_n 3, 1) := by decide +kernel
theorem d_TrustDeskModel_asks_21 : decode kY_TrustDeskModel_asks.2.1 21 = .ok (.iaload, 1) := by decide +kernel
theorem d_TrustDeskModel_asks_22 : decode kY_TrustDeskModel_asks.2.1 22 = .ok (.aload_n 0, 1) := by decide +kernel
theorem d_TrustDeskModel_asks_23 : decode kY_TrustDeskModel_asks.2.1 23 = .ok (.getfield 38, 3) := by decide +kernel
theorem d_TrustDeskModel_asks_26 : decode kY_TrustDeskModel_asks.2.1 26 = .ok (.iload 4, 2) := by decide +kernel
theorem d_TrustDeskModel_asks_28 : decode kY_TrustDeskModel_asks.2.1 28 = .ok (.iaload, 1) := by decide +kernel
theorem d_TrustDeskModel_asks_29 : decode kY_TrustDeskModel_asks.2.1 29 = .ok (.aload_n 0, 1) := by decide +kernel
theorem d_TrustDeskModel_asks_30 : decode kY_TrustDeskModel_asks.2.1 30 = .ok (.getfield 41, 3) := by decide +kernel
theorem d_TrustDeskModel_asks_33 : decode kY_TrustDeskModel_asks.2.1 33 = .ok (.iload 4, 2) := by decide +kernel
theorem d_TrustDeskModel_asks_35 : decode kY_TrustDeskModel_asks.2.1 35 = .ok (.iaload, 1) := by decide +kernel
theorem d_TrustDeskModel_asks_36 : decode kY_TrustDeskModel_asks.2.1 36 = .ok (.invokevirtual 447, 3) := by decide +kernel
theorem lV_TrustDeskModel_447 : mj_lV "TrustDeskModel" 447 kY_TrustDeskModel_works 3 := ⟨⟨(mj_in1 (List.mem_of_getElem? (i := 1864) (by decide +kernel)) rfl), (mj_in1 (List.mem_of_getElem? (i := 10) (by decide +kernel)) rfl), (mj_in1 (List.mem_of_getElem? (i := 1867) (by decide +kernel)) rfl), by decide, rfl, by decide⟩, (mj_in1 (List.mem_of_getElem? (i := 1866) (by decide +kernel)) rfl), (mj_in (List.mem_append_left _ (List.mem_of_getElem? (i := 117) (by decide +kernel))) rfl)⟩
theorem d_TrustDeskModel_asks_39 : decode kY_TrustDeskModel_asks.2.1 39 = .ok (.ifCond .ne 6, 3) := by decide +kernel
theorem d_TrustDeskModel_asks_45 : decode kY_TrustDeskModel_asks.2.1 45 = .ok (.iconst 0, 1) := by decide +kernel
theorem d_TrustDeskModel_asks_46 : decode kY_TrustDeskModel_asks.2.1 46 = .ok (.aload_n 0, 1) := by decide +kernel
theorem d_TrustDeskModel_asks_47 : decode kY_TrustDeskModel_asks.2.1 47 = .ok (.aload_n 0, 1) := by decide +kernel
theorem d_TrustDeskModel_asks_48 : decode kY_TrustDeskModel_asks.2.1 48 = .ok (.getfield 101, 3) := by decide +kernel
theorem d_TrustDeskModel_asks_51 : decode kY_TrustDeskModel_asks.2.1 51 = .ok (.iload_n 3, 1) := by decide +kernel
theorem d_TrustDeskModel_asks_52 : decode kY_TrustDeskModel_asks.2.1 52 = .ok (.iaload, 1) := by decide +kernel
theorem d_TrustDeskModel_asks_53 : decode kY_TrustDeskModel_asks.2.1 53 = .ok (.aload_n 0, 1) := by decide +kernel
theorem d_TrustDeskModel_asks_54 : decode kY_TrustDeskModel_asks.2.1 54 = .ok (.getfield 35, 3) := by decide +kernel
theorem d_TrustDeskModel_asks_57 : decode kY_TrustDeskModel_asks.2.1 57 = .ok (.iload 4, 2) := by decide +kernel
theorem d_TrustDeskModel_asks_59 : decode kY_TrustDeskModel_asks.2.1 59 = .ok (.iaload, 1) := by decide +kernel
theorem d_TrustDeskModel_asks_60 : decode kY_TrustDeskModel_asks.2.1 60 = .ok (.aload_n 0, 1) := by decide +kernel
theorem d_TrustDeskModel_asks_61 : decode kY_TrustDeskModel_asks.2.1 61 = .ok (.getfield 38, 3) := by decide +kernel
theorem d_TrustDeskModel_asks_64 : decode kY_TrustDeskModel_asks.2.1 64 = .ok (.iload 4, 2) := by decide +kernel
theorem d_TrustDeskModel_asks_66 : decode kY_TrustDeskModel_asks.2.1 66 = .ok (.iaload, 1) := by decide +kernel
theorem d_TrustDeskModel_asks_67 : decode kY_TrustDeskModel_asks.2.1 67 = .ok (.invokevirtual 447, 3) := by decide +kernel
theorem d_TrustDeskModel_asks_70 : decode kY_TrustDeskModel_asks.2.1 70 = .ok (.invokestatic 450, 3) := by decide +kernel
theorem d_TrustDeskModel_asks_73 : decode kY_TrustDeskModel_asks.2.1 73 = .ok (.ireturn, 1) := by decide +kernel
theorem d_TrustDeskModel_asks_42 : decode kY_TrustDeskModel_asks.2.1 42 = .ok (.bipush (-2), 2) := by decide +kernel
theorem d_TrustDeskModel_asks_44 : decode kY_TrustDeskModel_asks.2.1 44 = .ok (.ireturn, 1) := by decide +kernel
def w_TrustDeskModel_asks_x : List Nat := [1331, 20030]
set_option maxHeartbeats 100000000 in theorem tc_TrustDeskModel_asks_x {g : mj_G} {l : Launch} {d : Nat} {T0 : tm_H} {M0 : mj_M} {n0 x9 : Nat} {o0 : Nat} {x1 : Int32} {x2 : Int32} (h_o0 : T0 o0 = some (0, 13, 0)) (hn0 : 0 ≤ x1.toInt ∧ x1.toInt ≤ 11) (yR : rI M0 o0) (yC : rC M0 o0 44) (ye : 0 ≤ x2.toInt ∧ x2.toInt < ra M0 o0 43 x1.toNatClampNeg ∧ x2.toInt ≤ 71) (I0 : tm_I tm_FT (tm_in w_TrustDeskModel_asks_x) x9 T0 M0 n0 T0 M0 n0) : mj_Met g l kY_TrustDeskModel_asks (d + 3) [.ref o0, .int x1, .int x2] M0 n0 0 0 (tm_Q tm_FT (tm_in w_TrustDeskModel_asks_x) x9 T0 M0 n0 (fun r _ M => ∃ v : Int32, r = some (.int v) ∧ rI M o0 ∧ (v.toInt = -2 ∨ 0 ≤ v.toInt))) := by
  refine mj_enter (by decide) (Nat.le_of_ble_eq_true rfl) ?_
  have K1 : rC M0 o0 44 := yC
  refine mv_bipush (v := 80) d_TrustDeskModel_asks_0 (by decide) ?_
  refine mv_iload_n d_TrustDeskModel_asks_2 rfl rfl ?_
  refine mv_imul d_TrustDeskModel_asks_3 ?_
  refine mv_iload_n d_TrustDeskModel_asks_4 rfl rfl ?_
  refine mv_iadd d_TrustDeskModel_asks_5 ?_
  refine mv_istore_n (lv' := [(3, .int ((80 * x1) + x2)), (0, .ref o0), (1, .int x1), (2, .int x2)]) d_TrustDeskModel_asks_6 rfl (by decide) rfl ?_
  refine mv_aload_n d_TrustDeskModel_asks_7 rfl rfl ?_
  obtain ⟨a3, q2, t_a3⟩ := tm_atR I0 h_o0 (k := 45) rfl
  refine tr_getK q2 d_TrustDeskModel_asks_8 f_TrustDeskModel_104_13 ?_
  refine mv_iload_n d_TrustDeskModel_asks_11 rfl rfl ?_
  have b4 : (80 * x1 : Int32).toInt = (80 * x1.toInt) := mz_mul2 (by decide) rfl (by omega) (by omega)
  have b5 : ((80 * x1) + x2 : Int32).toInt = ((80 * x1.toInt) + x2.toInt) := mz_add2 b4 rfl (by omega) (by omega)
  refine tr_ialdR (o := o0) (k := 45) I0 q2 t_a3 (by decide) d_TrustDeskModel_asks_12 (vp_in_iff.mpr (by omega)) (fun v6 e7 => ?_)
  have := yR.a (k := 45) rfl (((80 * x1) + x2) : Int32).toNatClampNeg
  refine mv_istore (lv' := [(4, .int v6), (3, .int ((80 * x1) + x2)), (0, .ref o0), (1, .int x1), (2, .int x2)]) d_TrustDeskModel_asks_13 (by decide) rfl ?_
  refine mv_aload_n d_TrustDeskModel_asks_15 rfl rfl ?_
  refine mv_aload_n d_TrustDeskModel_asks_16 rfl rfl ?_
  obtain ⟨a9, q8, t_a9⟩ := tm_atR I0 h_o0 (k := 44) rfl
  refine tr_getK q8 d_TrustDeskModel_asks_17 f_TrustDeskModel_101_13 ?_
  refine mv_iload_n d_TrustDeskModel_asks_20 rfl rfl ?_
  have b10 : (80 * x1 : Int32).toInt = (80 * x1.toInt) := mz_mul2 (by decide) rfl (by omega) (by omega)
  have b11 : ((80 * x1) + x2 : Int32).toInt = ((80 * x1.toInt) + x2.toInt) := mz_add2 b10 rfl (by omega) (by omega)
  refine tr_ialdR (o := o0) (k := 44) I0 q8 t_a9 (by decide) d_TrustDeskModel_asks_21 (vp_in_iff.mpr (by omega)) (fun v12 e13 => ?_)
  have := yR.a (k := 44) rfl (((80 * x1) + x2) : Int32).toNatClampNeg
  refine mv_aload_n d_TrustDeskModel_asks_22 rfl rfl ?_
  obtain ⟨a15, q14, t_a15⟩ := tm_atR I0 h_o0 (k := 11) rfl
  refine tr_getK q14 d_TrustDeskModel_asks_23 f_TrustDeskModel_38_13 ?_
  refine mv_iload d_TrustDeskModel_asks_26 rfl ?_
  refine tr_ialdR (o := o0) (k := 11) I0 q14 t_a15 (by decide) d_TrustDeskModel_asks_28 (vp_in_iff.mpr (by omega)) (fun v16 e17 => ?_)
  have := yR.a (k := 11) rfl (v6 : Int32).toNatClampNeg
  refine mv_aload_n d_TrustDeskModel_asks_29 rfl rfl ?_
  obtain ⟨a19, q18, t_a19⟩ := tm_atR I0 h_o0 (k := 12) rfl
  refine tr_getK q18 d_TrustDeskModel_asks_30 f_TrustDeskModel_41_13 ?_
  refine mv_iload d_TrustDeskModel_asks_33 rfl ?_
  refine tr_ialdR (o := o0) (k := 12) I0 q18 t_a19 (by decide) d_TrustDeskModel_asks_35 (vp_in_iff.mpr (by omega)) (fun v20 e21 => ?_)
  have := yR.a (k := 12) rfl (v6 : Int32).toNatClampNeg
  obtain ⟨_, b28, -⟩ := I0.1 _ _ h_o0
  refine mv_callV (kc' := 0) (ks' := 0) (As := [.int v12, .int v16, .int v20]) (st9 := [.int v20, .int v16, .int v12, .ref o0]) d_TrustDeskModel_asks_36 lV_TrustDeskModel_447 b28 rfl (tc_TrustDeskModel_works_x (d := d) (x9 := x9) (o0 := o0) (x1 := v12) (x2 := v16) (x3 := v20) h_o0 (by omega) yR (by have := (rC.w1 K1 yR (f := x1) (e := x2) (k := ((80 * x1) + x2).toNatClampNeg) (r := v6) (r1 := v6) (by omega) (by omega) (by omega) (by have := mz_nat9 (i := ((80 * x1) + x2)) (by omega); have := mz_nat9 (i := x2) (by omega); have := mz_nat9 (i := x1) (by omega); omega) e13 (by omega) (by omega) e17 e21).1; have := yR.2 11 _ _ rfl v6.toNatClampNeg; have := yR.2 12 _ _ rfl v6.toNatClampNeg; omega) (rC.w1 K1 yR (f := x1) (e := x2) (k := ((80 * x1) + x2).toNatClampNeg) (r := v6) (r1 := v6) (by omega) (by omega) (by omega) (by have := mz_nat9 (i := ((80 * x1) + x2)) (by omega); have := mz_nat9 (i := x2) (by omega); have := mz_nat9 (i := x1) (by omega); omega) e13 (by omega) (by omega) e17 e21).2 I0.start) rfl (Nat.le_of_ble_eq_true rfl) (Nat.le_of_ble_eq_true rfl) (Nat.le_of_ble_eq_true rfl) (hst := rfl) (fun b22r M23 n24 b22 => ?_)
  obtain ⟨T25, J26, v29, rfl, R30⟩ := b22
  have I27 := I0.call J26 (tm_sub (by decide)) (Or.inl rfl)
  have t31 := J26.up h_o0
  have z32 := (ra_call I0 J26 (I0.up h_o0) (k := 43) rfl rfl rfl x1.toNatClampNeg)
  have z33 := (ra_call I0 J26 (I0.up h_o0) (k := 45) rfl rfl rfl (((80 * x1) + x2).toNatClampNeg))
  have K34 : rC M23 o0 44 := K1.same (sA_c I0 J26 (I0.up h_o0) (by decide +kernel)) (sF_c I0 J26 (I0.up h_o0) (by decide +kernel))
  have q35 := J26.keep h_o0 (by decide) q2
  have t36 := J26.up t_a3
  have q37 := J26.keep h_o0 (by decide) q8
  have t38 := J26.up t_a9
  have q39 := J26.keep h_o0 (by decide) q14
  have t40 := J26.up t_a15
  have q41 := J26.keep h_o0 (by decide) q18
  have t42 := J26.up t_a19
  have := mz_hi v29
  refine mv_if_neZ (tgt := 45) (a := v29.toInt) d_TrustDeskModel_asks_39 (by decide) rfl (fun b43 => ?_) (fun b43 => ?_)
  · refine mv_iconst (v := 0) d_TrustDeskModel_asks_45 (by decide) ?_
    refine mv_aload_n d_TrustDeskModel_asks_46 rfl rfl ?_
    refine mv_aload_n d_TrustDeskModel_asks_47 rfl rfl ?_
    refine tr_getK (k := 44) q37 d_TrustDeskModel_asks_48 f_TrustDeskModel_101_13 ?_
    refine mv_iload_n d_TrustDeskModel_asks_51 rfl rfl ?_
    have b44 : (80 * x1 : Int32).toInt = (80 * x1.toInt) := mz_mul2 (by decide) rfl (by omega) (by omega)
    have b45 : ((80 * x1) + x2 : Int32).toInt = ((80 * x1.toInt) + x2.toInt) := mz_add2 b44 rfl (by omega) (by omega)
    refine tr_ialdR (o := o0) (k := 44) I27 q37 t38 (by decide) d_TrustDeskModel_asks_52 (vp_in_iff.mpr (by omega)) (fun v46 e47 => ?_)
    have := R30.a (k := 44) rfl (((80 * x1) + x2) : Int32).toNatClampNeg
    refine mv_aload_n d_TrustDeskModel_asks_53 rfl rfl ?_
    obtain ⟨a49, q48, t_a49⟩ := tm_atR I27 t31 (k := 10) rfl
    refine tr_getK q48 d_TrustDeskModel_asks_54 f_TrustDeskModel_35_13 ?_
    refine mv_iload d_TrustDeskModel_asks_57 rfl ?_
    refine tr_ialdR (o := o0) (k := 10) I27 q48 t_a49 (by decide) d_TrustDeskModel_asks_59 (vp_in_iff.mpr (by omega)) (fun v50 e51 => ?_)
    have := R30.a (k := 10) rfl (v6 : Int32).toNatClampNeg
    refine mv_aload_n d_TrustDeskModel_asks_60 rfl rfl ?_
    refine tr_getK (k := 11) q39 d_TrustDeskModel_asks_61 f_TrustDeskModel_38_13 ?_
    refine mv_iload d_TrustDeskModel_asks_64 rfl ?_
    refine tr_ialdR (o := o0) (k := 11) I27 q39 t40 (by decide) d_TrustDeskModel_asks_66 (vp_in_iff.mpr (by omega)) (fun v52 e53 => ?_)
    have := R30.a (k := 11) rfl (v6 : Int32).toNatClampNeg
    obtain ⟨_, b60, -⟩ := I27.1 _ _ t31
    refine mv_callV (kc' := 0) (ks' := 0) (As := [.int v46, .int v50, .int v52]) (st9 := [.int v52, .int v50, .int v46, .ref o0, .int 0]) d_TrustDeskModel_asks_67 lV_TrustDeskModel_447 b60 rfl (tc_TrustDeskModel_works_x (d := d) (x9 := x9) (o0 := o0) (x1 := v46) (x2 := v50) (x3 := v52) t31 (by omega) R30 (by have := (rC.w2 K34 R30 (f := x1) (e := x2) (k := ((80 * x1) + x2).toNatClampNeg) (r := v6) (r1 := v6) (by omega) (by omega) (by omega) (by have := mz_nat9 (i := ((80 * x1) + x2)) (by omega); have := mz_nat9 (i := x2) (by omega); have := mz_nat9 (i := x1) (by omega); omega) e47 (by omega) (by omega) e51 e53).1; have := R30.2 10 _ _ rfl v6.toNatClampNeg; have := R30.2 11 _ _ rfl v6.toNatClampNeg; omega) (rC.w2 K34 R30 (f := x1) (e := x2) (k := ((80 * x1) + x2).toNatClampNeg) (r := v6) (r1 := v6) (by omega) (by omega) (by omega) (by have := mz_nat9 (i := ((80 * x1) + x2)) (by omega); have := mz_nat9 (i := x2) (by omega); have := mz_nat9 (i := x1) (by omega); omega) e47 (by omega) (by omega) e51 e53).2 I27.start) rfl (Nat.le_of_ble_eq_true rfl) (Nat.le_of_ble_eq_true rfl) (Nat.le_of_ble_eq_true rfl) (hst := rfl) (fun b54r M55 n56 b54 => ?_)
    obtain ⟨T57, J58, v61, rfl, R62⟩ := b54
    have I59 := I27.call J58 (tm_sub (by decide)) (Or.inl rfl)
    have t63 := J58.up t31
    have z64 := (ra_call I27 J58 (I27.up h_o0) (k := 43) rfl rfl rfl x1.toNatClampNeg).trans z32
    have z65 := (ra_call I27 J58 (I27.up h_o0) (k := 45) rfl rfl rfl (((80 * x1) + x2).toNatClampNeg)).trans z33
    have K66 : rC M55 o0 44 := K34.same (sA_c I27 J58 (I27.up h_o0) (by decide +kernel)) (sF_c I27 J58 (I27.up h_o0) (by decide +kernel))
    clear z32 z33
    have q67 := J58.keep t31 (by decide) q35
    have t68 := J58.up t36
    have q69 := J58.keep t31 (by decide) q37
    have t70 := J58.up t38
    have q71 := J58.keep t31 (by decide) q39
    have t72 := J58.up t40
    have q73 := J58.keep t31 (by decide) q41
    have t74 := J58.up t42
    have q75 := J58.keep t31 (by decide) q48
    have t76 := J58.up t_a49
    obtain ⟨v77, b78, _, _, _⟩ := mz_max9 0 v61
    have : (0 : Int32).toInt = 0 := by decide
    refine mv_mmax (v := v77) d_TrustDeskModel_asks_70 (mj_in1 (List.mem_of_getElem? (i := 1871) (by decide +kernel)) rfl) (Nat.le_of_ble_eq_true rfl) b78 ?_
    exact mv_iret d_TrustDeskModel_asks_73 rfl (by first | rfl | decide) ⟨_, I59, _, rfl, R62, (Or.inr (by omega))⟩
  · refine mv_bipush (v := (-2)) d_TrustDeskModel_asks_42 (by decide) ?_
    exact mv_iret d_TrustDeskModel_asks_44 rfl (by first | rfl | decide) ⟨_, I27, _, rfl, R30, (Or.inl (by decide))⟩
abbrev kY_TrustDeskModel_due : mj_Y := (⟨"TrustDeskModel", "due", "(IIII)I"⟩, prog_14_method_61_code, 5, (Option.some Jvm.ClassFile.FieldType.int))
theorem d_TrustDeskModel_due_0 : decode kY_TrustDeskModel_due.2.1 0 = .ok (.aload_n 0, 1) := by decide +kernel
theorem d_TrustDeskModel_due_1 : decode kY_TrustDeskModel_due.2.1 1 = .ok (.iconst 0, 1) := by decide +kernel
theorem d_TrustDeskModel_due_2 : decode kY_TrustDeskModel_due.2.1 2 = .ok (.putfield 1, 3) := by decide +kernel
theorem d_TrustDeskModel_due_5 : decode kY_TrustDeskModel_due.2.1 5 = .ok (.aload_n 0, 1) := by decide +kernel
theorem d_TrustDeskModel_due_6 : decode kY_TrustDeskModel_due.2.1 6 = .ok (.iload_n 1, 1) := by decide +kernel
theorem d_TrustDeskModel_due_7 : decode kY_TrustDeskModel_due.2.1 7 = .ok (.iload_n 2, 1) := by decide +kernel
theorem d_TrustDeskModel_due_8 : decode kY_TrustDeskModel_due.2.1 8 = .ok (.invokevirtual 455, 3) := by decide +kernel
abbrev kY_TrustDeskModel_isEnd : mj_Y := (⟨"TrustDeskModel", "isEnd", "(II)Z"⟩, prog_14_method_53_code, 3, (Option.some Jvm.ClassFile.FieldType.boolean))
theorem lV_TrustDeskModel_455 : mj_lV "TrustDeskModel" 455 kY_TrustDeskModel_isEnd 2 := ⟨⟨(mj_in1 (List.mem_of_getElem? (i := 1830) (by decide +kernel)) rfl), (mj_in1 (List.mem_of_getElem? (i := 10) (by decide +kernel)) rfl), (mj_in1 (List.mem_of_getElem? (i := 1833) (by decide +kernel)) rfl), by decide, rfl, by decide⟩, (mj_in1 (List.mem_of_getElem? (i := 1832) (by decide +kernel)) rfl), (mj_in (List.mem_append_left _ (List.mem_of_getElem? (i := 111) (by decide +kernel))) rfl)⟩
theorem d_TrustDeskModel_isEnd_0 : decode kY_TrustDeskModel_isEnd.2.1 0 = .ok (.aload_n 0, 1) := by decide +kernel
theorem d_TrustDeskModel_isEnd_1 : decode kY_TrustDeskModel_isEnd.2.1 1 = .ok (.iload_n 1, 1) := by decide +kernel
theorem d_TrustDeskModel_isEnd_2 : decode kY_TrustDeskModel_isEnd.2.1 2 = .ok (.invokevirtual 418, 3) := by decide +kernel
abbrev kY_TrustDeskModel_isFund : mj_Y := (⟨"TrustDeskModel", "isFund", "(I)Z"⟩, prog_14_method_51_code, 2, (Option.some Jvm.ClassFile.FieldType.boolean))
theorem lV_TrustDeskModel_418 : mj_lV "TrustDeskModel" 418 kY_TrustDeskModel_isFund 1 := ⟨⟨(mj_in1 (List.mem_of_getElem? (i := 1834) (by decide +kernel)) rfl), (mj_in1 (List.mem_of_getElem? (i := 10) (by decide +kernel)) rfl), (mj_in1 (List.mem_of_getElem? (i := 1837) (by decide +kernel)) rfl), by decide, rfl, by decide⟩, (mj_in1 (List.mem_of_getElem? (i := 1836) (by decide +kernel)) rfl), (mj_in (List.mem_append_left _ (List.mem_of_getElem? (i := 112) (by decide +kernel))) rfl)⟩
theorem d_TrustDeskModel_isFund_0 : decode kY_TrustDeskModel_isFund.2.1 0 = .ok (.iload_n 1, 1) := by decide +kernel
theorem d_TrustDeskModel_isFund_1 : decode kY_TrustDeskModel_isFund.2.1 1 = .ok (.ifCond .lt 15, 3) := by decide +kernel
theorem d_TrustDeskModel_isFund_16 : decode kY_TrustDeskModel_isFund.2.1 16 = .ok (.iconst 0, 1) := by decide +kernel
theorem d_TrustDeskModel_isFund_17 : decode kY_TrustDeskModel_isFund.2.1 17 = .ok (.ireturn, 1) := by decide +kernel
theorem d_TrustDeskModel_isEnd_5 : decode kY_TrustDeskModel_isEnd.2.1 5 = .ok (.ifCond .eq 21, 3) := by decide +kernel
theorem d_TrustDeskModel_isEnd_26 : decode kY_TrustDeskModel_isEnd.2.1 26 = .ok (.iconst 0, 1) := by decide +kernel
theorem d_TrustDeskModel_isEnd_27 : decode kY_TrustDeskModel_isEnd.2.1 27 = .ok (.ireturn, 1) := by decide +kernel
theorem d_TrustDeskModel_due_11 : decode kY_TrustDeskModel_due.2.1 11 = .ok (.ifCond .eq 19, 3) := by decide +kernel
theorem d_TrustDeskModel_due_30 : decode kY_TrustDeskModel_due.2.1 30 = .ok (.iconst (-1), 1) := by decide +kernel
theorem d_TrustDeskModel_due_31 : decode kY_TrustDeskModel_due.2.1 31 = .ok (.ireturn, 1) := by decide +kernel
theorem d_TrustDeskModel_isFund_4 : decode kY_TrustDeskModel_isFund.2.1 4 = .ok (.iload_n 1, 1) := by decide +kernel
theorem d_TrustDeskModel_isFund_5 : decode kY_TrustDeskModel_isFund.2.1 5 = .ok (.aload_n 0, 1) := by decide +kernel
theorem d_TrustDeskModel_isFund_6 : decode kY_TrustDeskModel_isFund.2.1 6 = .ok (.getfield 415, 3) := by decide +kernel
theorem d_TrustDeskModel_isFund_9 : decode kY_TrustDeskModel_isFund.2.1 9 = .ok (.if_icmp .ge 7, 3) := by decide +kernel
theorem d_TrustDeskModel_isFund_12 : decode kY_TrustDeskModel_isFund.2.1 12 = .ok (.iconst 1, 1) := by decide +kernel
theorem d_TrustDeskModel_isFund_13 : decode kY_TrustDeskModel_isFund.2.1 13 = .ok (.goto 4, 3) := by decide +kernel
theorem d_TrustDeskModel_isEnd_8 : decode kY_TrustDeskModel_isEnd.2.1 8 = .ok (.iload_n 2, 1) := by decide +kernel
theorem d_TrustDeskModel_isEnd_9 : decode kY_TrustDeskModel_isEnd.2.1 9 = .ok (.ifCond .lt 17, 3) := by decide +kernel
theorem d_TrustDeskModel_isEnd_12 : decode kY_TrustDeskModel_isEnd.2.1 12 = .ok (.iload_n 2, 1) := by decide +kernel
theorem d_TrustDeskModel_isEnd_13 : decode kY_TrustDeskModel_isEnd.2.1 13 = .ok (.aload_n 0, 1) := by decide +kernel
theorem d_TrustDeskModel_isEnd_14 : decode kY_TrustDeskModel_isEnd.2.1 14 = .ok (.getfield 98, 3) := by decide +kernel
theorem d_TrustDeskModel_isEnd_17 : decode kY_TrustDeskModel_isEnd.2.1 17 = .ok (.iload_n 1, 1) := by decide +kernel
theorem d_TrustDeskModel_isEnd_18 : decode kY_TrustDeskModel_isEnd.2.1 18 = .ok (.iaload, 1) := by decide +kernel
theorem d_TrustDeskModel_isEnd_19 : decode kY_TrustDeskModel_isEnd.2.1 19 = .ok (.if_icmp .ge 7, 3) := by decide +kernel
theorem d_TrustDeskModel_isEnd_22 : decode kY_TrustDeskModel_isEnd.2.1 22 = .ok (.iconst 1, 1) := by decide +kernel
theorem d_TrustDeskModel_isEnd_23 : decode kY_TrustDeskModel_isEnd.2.1 23 = .ok (.goto 4, 3) := by decide +kernel
theorem d_TrustDeskModel_due_14 : decode kY_TrustDeskModel_due.2.1 14 = .ok (.iload_n 3, 1) := by decide +kernel
theorem d_TrustDeskModel_due_15 : decode kY_TrustDeskModel_due.2.1 15 = .ok (.invokestatic 173, 3) := by decide +kernel
abbrev kY_TrustDeskModel_isYear : mj_Y := (⟨"TrustDeskModel", "isYear", "(I)Z"⟩, prog_14_method_7_code, 1, (Option.some Jvm.ClassFile.FieldType.boolean))
theorem lS_TrustDeskModel_173 : mj_lS "TrustDeskModel" 173 kY_TrustDeskModel_isYear 1 := ⟨⟨(mj_in1 (List.mem_of_getElem? (i := 1611) (by decide +kernel)) rfl), (mj_in1 (List.mem_of_getElem? (i := 10) (by decide +kernel)) rfl), (mj_in1 (List.mem_of_getElem? (i := 1613) (by decide +kernel)) rfl), by decide, rfl, by decide⟩, (mj_in1 (List.mem_of_getElem? (i := 1612) (by decide +kernel)) rfl)⟩
theorem d_TrustDeskModel_isYear_0 : decode kY_TrustDeskModel_isYear.2.1 0 = .ok (.iload_n 0, 1) := by decide +kernel
theorem d_TrustDeskModel_isYear_1 : decode kY_TrustDeskModel_isYear.2.1 1 = .ok (.ifCond .lt 13, 3) := by decide +kernel
theorem d_TrustDeskModel_isYear_14 : decode kY_TrustDeskModel_isYear.2.1 14 = .ok (.iconst 0, 1) := by decide +kernel
theorem d_TrustDeskModel_isYear_15 : decode kY_TrustDeskModel_isYear.2.1 15 = .ok (.ireturn, 1) := by decide +kernel
theorem d_TrustDeskModel_due_18 : decode kY_TrustDeskModel_due.2.1 18 = .ok (.ifCond .eq 12, 3) := by decide +kernel
theorem d_TrustDeskModel_isYear_4 : decode kY_TrustDeskModel_isYear.2.1 4 = .ok (.iload_n 0, 1) := by decide +kernel
theorem d_TrustDeskModel_isYear_5 : decode kY_TrustDeskModel_isYear.2.1 5 = .ok (.bipush 100, 2) := by decide +kernel
theorem d_TrustDeskModel_isYear_7 : decode kY_TrustDeskModel_isYear.2.1 7 = .ok (.if_icmp .gt 7, 3) := by decide +kernel
theorem d_TrustDeskModel_isYear_10 : decode kY_TrustDeskModel_isYear.2.1 10 = .ok (.iconst 1, 1) := by decide +kernel
theorem d_TrustDeskModel_isYear_11 : decode kY_TrustDeskModel_isYear.2.1 11 = .ok (.goto 4, 3) := by decide +kernel
theorem d_TrustDeskModel_due_21 : decode kY_TrustDeskModel_due.2.1 21 = .ok (.aload_n 0, 1) := by decide +kernel
theorem d_TrustDeskModel_due_22 : decode kY_TrustDeskModel_due.2.1 22 = .ok (.iload 4, 2) := by decide +kernel
theorem d_TrustDeskModel_due_24 : decode kY_TrustDeskModel_due.2.1 24 = .ok (.invokevirtual 182, 3) := by decide +kernel
abbrev kY_TrustDeskModel_isKnown : mj_Y := (⟨"TrustDeskModel", "isKnown", "(I)Z"⟩, prog_14_method_6_code, 2, (Option.some Jvm.ClassFile.FieldType.boolean))
theorem lV_TrustDeskModel_182 : mj_lV "TrustDeskModel" 182 kY_TrustDeskModel_isKnown 1 := ⟨⟨(mj_in1 (List.mem_of_getElem? (i := 1619) (by decide +kernel)) rfl), (mj_in1 (List.mem_of_getElem? (i := 10) (by decide +kernel)) rfl), (mj_in1 (List.mem_of_getElem? (i := 1622) (by decide +kernel)) rfl), by decide, rfl, by decide⟩, (mj_in1 (List.mem_of_getElem? (i := 1621) (by decide +kernel)) rfl), (mj_in (List.mem_append_left _ (List.mem_of_getElem? (i := 78) (by decide +kernel))) rfl)⟩
theorem d_TrustDeskModel_isKnown_0 : decode kY_TrustDeskModel_isKnown.2.1 0 = .ok (.iload_n 1, 1) := by decide +kernel
theorem d_TrustDeskModel_isKnown_1 : decode kY_TrustDeskModel_isKnown.2.1 1 = .ok (.ifCond .lt 15, 3) := by decide +kernel
theorem d_TrustDeskModel_isKnown_16 : decode kY_TrustDeskModel_isKnown.2.1 16 = .ok (.iconst 0, 1) := by decide +kernel
theorem d_TrustDeskModel_isKnown_17 : decode kY_TrustDeskModel_isKnown.2.1 17 = .ok (.ireturn, 1) := by decide +kernel
theorem d_TrustDeskModel_due_27 : decode kY_TrustDeskModel_due.2.1 27 = .ok (.ifCond .ne 5, 3) := by decide +kernel
theorem d_TrustDeskModel_isKnown_4 : decode kY_TrustDeskModel_isKnown.2.1 4 = .ok (.iload_n 1, 1) := by decide +kernel
theorem d_TrustDeskModel_isKnown_5 : decode kY_TrustDeskModel_isKnown.2.1 5 = .ok (.aload_n 0, 1) := by decide +kernel
theorem d_TrustDeskModel_isKnown_6 : decode kY_TrustDeskModel_isKnown.2.1 6 = .ok (.getfield 164, 3) := by decide +kernel
theorem d_TrustDeskModel_isKnown_9 : decode kY_TrustDeskModel_isKnown.2.1 9 = .ok (.if_icmp .gt 7, 3) := by decide +kernel
theorem d_TrustDeskModel_isKnown_12 : decode kY_TrustDeskModel_isKnown.2.1 12 = .ok (.iconst 1, 1) := by decide +kernel
theorem d_TrustDeskModel_isKnown_13 : decode kY_TrustDeskModel_isKnown.2.1 13 = .ok (.goto 4, 3) := by decide +kernel
theorem d_TrustDeskModel_due_32 : decode kY_TrustDeskModel_due.2.1 32 = .ok (.aload_n 0, 1) := by decide +kernel
theorem d_TrustDeskModel_due_33 : decode kY_TrustDeskModel_due.2.1 33 = .ok (.iload_n 1, 1) := by decide +kernel
theorem d_TrustDeskModel_due_34 : decode kY_TrustDeskModel_due.2.1 34 = .ok (.iload_n 3, 1) := by decide +kernel
theorem d_TrustDeskModel_due_35 : decode kY_TrustDeskModel_due.2.1 35 = .ok (.iload 4, 2) := by decide +kernel
theorem d_TrustDeskModel_due_37 : decode kY_TrustDeskModel_due.2.1 37 = .ok (.invokevirtual 459, 3) := by decide +kernel
theorem lV_TrustDeskModel_459 : mj_lV "TrustDeskModel" 459 kY_TrustDeskModel_names 3 := ⟨⟨(mj_in1 (List.mem_of_getElem? (i := 1838) (by decide +kernel)) rfl), (mj_in1 (List.mem_of_getElem? (i := 10) (by decide +kernel)) rfl), (mj_in1 (List.mem_of_getElem? (i := 1841) (by decide +kernel)) rfl), by decide, rfl, by decide⟩, (mj_in1 (List.mem_of_getElem? (i := 1840) (by decide +kernel)) rfl), (mj_in (List.mem_append_left _ (List.mem_of_getElem? (i := 113) (by decide +kernel))) rfl)⟩
theorem d_TrustDeskModel_due_40 : decode kY_TrustDeskModel_due.2.1 40 = .ok (.aload_n 0, 1) := by decide +kernel
theorem d_TrustDeskModel_due_41 : decode kY_TrustDeskModel_due.2.1 41 = .ok (.iload_n 1, 1) := by decide +kernel
theorem d_TrustDeskModel_due_42 : decode kY_TrustDeskModel_due.2.1 42 = .ok (.iload_n 2, 1) := by decide +kernel
theorem d_TrustDeskModel_due_43 : decode kY_TrustDeskModel_due.2.1 43 = .ok (.invokevirtual 463, 3) := by decide +kernel
theorem lV_TrustDeskModel_463 : mj_lV "TrustDeskModel" 463 kY_TrustDeskModel_asks 2 := ⟨⟨(mj_in1 (List.mem_of_getElem? (i := 1860) (by decide +kernel)) rfl), (mj_in1 (List.mem_of_getElem? (i := 10) (by decide +kernel)) rfl), (mj_in1 (List.mem_of_getElem? (i := 1863) (by decide +kernel)) rfl), by decide, rfl, by decide⟩, (mj_in1 (List.mem_of_getElem? (i := 1862) (by decide +kernel)) rfl), (mj_in (List.mem_append_left _ (List.mem_of_getElem? (i := 116) (by decide +kernel))) rfl)⟩
theorem d_TrustDeskModel_due_46 : decode kY_TrustDeskModel_due.2.1 46 = .ok (.ireturn, 1) := by decide +kernel
def w_TrustDeskModel_due_x : List Nat := [1300, 1331, 20029, 20030]
set_option maxHeartbeats 100000000 in theorem tc_TrustDeskModel_due_x {g : mj_G} {l : Launch} {d : Nat} {T0 : tm_H} {M0 : mj_M} {n0 x9 : Nat} {o0 : Nat} {x1 : Int32} {x2 : Int32} {x3 : Int32} {x4 : Int32} (h_o0 : T0 o0 = some (0, 13, 0)) (yR : rI M0 o0) (yC : rC M0 o0 44) (I0 : tm_I tm_FT (tm_in w_TrustDeskModel_due_x) x9 T0 M0 n0 T0 M0 n0) : mj_Met g l kY_TrustDeskModel_due (d + 4) [.ref o0, .int x1, .int x2, .int x3, .int x4] M0 n0 0 0 (tm_Q tm_FT (tm_in w_TrustDeskModel_due_x) x9 T0 M0 n0 (fun r _ M => ∃ v : Int32, r = some (.int v) ∧ rI M o0)) := by
  refine mj_enter (by decide) (Nat.le_of_ble_eq_true rfl) ?_
  have K1 : rC M0 o0 44 := yC
  refine mv_aload_n d_TrustDeskModel_due_0 rfl rfl ?_
  refine mv_iconst (v := 0) d_TrustDeskModel_due_1 (by decide) ?_
  refine tr_putR (k := 0) I0 yR h_o0 rfl ⟨_, rfl⟩ (fun _ h => by cases h) rfl (fun lo hi h => by cases h) (Or.inl (by decide)) d_TrustDeskModel_due_2 p_TrustDeskModel_1_13 rfl rfl (fun M2 I3 q4 K5 R6 A7 V8 => ?_)
  have K9 : rC M2 o0 44 := K1.same (sA_f A7 (by decide)) (sF_f V8 (by decide))
  refine mv_aload_n d_TrustDeskModel_due_5 rfl rfl ?_
  refine mv_iload_n d_TrustDeskModel_due_6 rfl rfl ?_
  refine mv_iload_n d_TrustDeskModel_due_7 rfl rfl ?_
  obtain ⟨_, b10, -⟩ := I3.1 _ _ h_o0
  refine mv_callV (kc1 := 0) (ks1 := 0) (kc' := 0) (ks' := 0) (As := [.int x1, .int x2]) (st9 := [.int x2, .int x1, .ref o0]) d_TrustDeskModel_due_8 lV_TrustDeskModel_455 b10 rfl (mj_enter (by decide) (Nat.le_of_ble_eq_true rfl) ?_) rfl (Nat.le_of_ble_eq_true rfl) (Nat.le_of_ble_eq_true rfl) (Nat.le_of_ble_eq_true rfl) (hst := rfl) (fun _ _ _ h => h)
  refine mv_aload_n d_TrustDeskModel_isEnd_0 rfl rfl ?_
  refine mv_iload_n d_TrustDeskModel_isEnd_1 rfl rfl ?_
  obtain ⟨_, b11, -⟩ := I3.1 _ _ h_o0
  refine mv_callV (kc1 := 0) (ks1 := 0) (kc' := 0) (ks' := 0) (As := [.int x1]) (st9 := [.int x1, .ref o0]) d_TrustDeskModel_isEnd_2 lV_TrustDeskModel_418 b11 rfl (mj_enter (by decide) (Nat.le_of_ble_eq_true rfl) ?_) rfl (Nat.le_of_ble_eq_true rfl) (Nat.le_of_ble_eq_true rfl) (Nat.le_of_ble_eq_true rfl) (hst := rfl) (fun _ _ _ h => h)
  refine mv_iload_n d_TrustDeskModel_isFund_0 rfl rfl ?_
  have := mz_hi x1
  refine mv_if_ltZ (tgt := 16) (a := x1.toInt) d_TrustDeskModel_isFund_1 (by decide) rfl (fun b12 => ?_) (fun b12 => ?_)
  · refine mv_iconst (v := 0) d_TrustDeskModel_isFund_16 (by decide) ?_
    refine mv_iret d_TrustDeskModel_isFund_17 rfl (by decide) ?_
    refine mv_if_eq_t (tgt := 26) d_TrustDeskModel_isEnd_5 (by decide) (by decide) ?_
    refine mv_iconst (v := 0) d_TrustDeskModel_isEnd_26 (by decide) ?_
    refine mv_iret d_TrustDeskModel_isEnd_27 rfl (by decide) ?_
    refine mv_if_eq_t (tgt := 30) d_TrustDeskModel_due_11 (by decide) (by decide) ?_
    refine mv_iconst (v := (-1)) d_TrustDeskModel_due_30 (by decide) ?_
    exact mv_iret d_TrustDeskModel_due_31 rfl (by first | rfl | decide) ⟨_, I3, _, rfl, R6⟩
  · refine mv_iload_n d_TrustDeskModel_isFund_4 rfl rfl ?_
    refine mv_aload_n d_TrustDeskModel_isFund_5 rfl rfl ?_
    obtain ⟨v14, q13⟩ := tm_atI I3 h_o0 (k := 32) rfl
    refine tr_getK q13 d_TrustDeskModel_isFund_6 f_TrustDeskModel_415_13 ?_
    have := R6.f (k := 32) q13 rfl
    have := mz_hi x1
    have := mz_hi v14
    refine mv_icmp_geZ (tgt := 16) (a := x1.toInt) (b := v14.toInt) d_TrustDeskModel_isFund_9 (by decide) rfl rfl (fun b15 => ?_) (fun b15 => ?_)
    · refine mv_iconst (v := 0) d_TrustDeskModel_isFund_16 (by decide) ?_
      refine mv_iret d_TrustDeskModel_isFund_17 rfl (by decide) ?_
      refine mv_if_eq_t (tgt := 26) d_TrustDeskModel_isEnd_5 (by decide) (by decide) ?_
      refine mv_iconst (v := 0) d_TrustDeskModel_isEnd_26 (by decide) ?_
      refine mv_iret d_TrustDeskModel_isEnd_27 rfl (by decide) ?_
      refine mv_if_eq_t (tgt := 30) d_TrustDeskModel_due_11 (by decide) (by decide) ?_
      refine mv_iconst (v := (-1)) d_TrustDeskModel_due_30 (by decide) ?_
      exact mv_iret d_TrustDeskModel_due_31 rfl (by first | rfl | decide) ⟨_, I3, _, rfl, R6⟩
    · refine mv_iconst (v := 1) d_TrustDeskModel_isFund_12 (by decide) ?_
      refine mv_goto (tgt := 17) d_TrustDeskModel_isFund_13 (by decide) ?_
      refine mv_iret d_TrustDeskModel_isFund_17 rfl (by decide) ?_
      refine mv_if_eq_f (tgt := 26) d_TrustDeskModel_isEnd_5 (by decide) (by decide) ?_
      refine mv_iload_n d_TrustDeskModel_isEnd_8 rfl rfl ?_
      have := mz_hi x2
      refine mv_if_ltZ (tgt := 26) (a := x2.toInt) d_TrustDeskModel_isEnd_9 (by decide) rfl (fun b16 => ?_) (fun b16 => ?_)
      · refine mv_iconst (v := 0) d_TrustDeskModel_isEnd_26 (by decide) ?_
        refine mv_iret d_TrustDeskModel_isEnd_27 rfl (by decide) ?_
        refine mv_if_eq_t (tgt := 30) d_TrustDeskModel_due_11 (by decide) (by decide) ?_
        refine mv_iconst (v := (-1)) d_TrustDeskModel_due_30 (by decide) ?_
        exact mv_iret d_TrustDeskModel_due_31 rfl (by first | rfl | decide) ⟨_, I3, _, rfl, R6⟩
      · refine mv_iload_n d_TrustDeskModel_isEnd_12 rfl rfl ?_
        refine mv_aload_n d_TrustDeskModel_isEnd_13 rfl rfl ?_
        obtain ⟨a18, q17, t_a18⟩ := tm_atR I3 h_o0 (k := 43) rfl
        refine tr_getK q17 d_TrustDeskModel_isEnd_14 f_TrustDeskModel_98_13 ?_
        refine mv_iload_n d_TrustDeskModel_isEnd_17 rfl rfl ?_
        refine tr_ialdR (o := o0) (k := 43) I3 q17 t_a18 (by decide) d_TrustDeskModel_isEnd_18 (vp_in_iff.mpr (by omega)) (fun v19 e20 => ?_)
        have := R6.a (k := 43) rfl (x1 : Int32).toNatClampNeg
        have := mz_hi x2
        have := mz_hi v19
        refine mv_icmp_geZ (tgt := 26) (a := x2.toInt) (b := v19.toInt) d_TrustDeskModel_isEnd_19 (by decide) rfl rfl (fun b21 => ?_) (fun b21 => ?_)
        · refine mv_iconst (v := 0) d_TrustDeskModel_isEnd_26 (by decide) ?_
          refine mv_iret d_TrustDeskModel_isEnd_27 rfl (by decide) ?_
          refine mv_if_eq_t (tgt := 30) d_TrustDeskModel_due_11 (by decide) (by decide) ?_
          refine mv_iconst (v := (-1)) d_TrustDeskModel_due_30 (by decide) ?_
          exact mv_iret d_TrustDeskModel_due_31 rfl (by first | rfl | decide) ⟨_, I3, _, rfl, R6⟩
        · refine mv_iconst (v := 1) d_TrustDeskModel_isEnd_22 (by decide) ?_
          refine mv_goto (tgt := 27) d_TrustDeskModel_isEnd_23 (by decide) ?_
          refine mv_iret d_TrustDeskModel_isEnd_27 rfl (by decide) ?_
          refine mv_if_eq_f (tgt := 30) d_TrustDeskModel_due_11 (by decide) (by decide) ?_
          refine mv_iload_n d_TrustDeskModel_due_14 rfl rfl ?_
          refine mv_callS (kc1 := 0) (ks1 := 0) (kc' := 0) (ks' := 0) (As := [.int x3]) (st9 := [.int x3]) d_TrustDeskModel_due_15 lS_TrustDeskModel_173 (mj_enter (by decide) (Nat.le_of_ble_eq_true rfl) ?_) rfl (Nat.le_of_ble_eq_true rfl) (Nat.le_of_ble_eq_true rfl) (Nat.le_of_ble_eq_true rfl) (hst := rfl) (fun _ _ _ h => h)
          refine mv_iload_n d_TrustDeskModel_isYear_0 rfl rfl ?_
          have := mz_hi x3
          refine mv_if_ltZ (tgt := 14) (a := x3.toInt) d_TrustDeskModel_isYear_1 (by decide) rfl (fun b22 => ?_) (fun b22 => ?_)
          · refine mv_iconst (v := 0) d_TrustDeskModel_isYear_14 (by decide) ?_
            refine mv_iret d_TrustDeskModel_isYear_15 rfl (by decide) ?_
            refine mv_if_eq_t (tgt := 30) d_TrustDeskModel_due_18 (by decide) (by decide) ?_
            refine mv_iconst (v := (-1)) d_TrustDeskModel_due_30 (by decide) ?_
            exact mv_iret d_TrustDeskModel_due_31 rfl (by first | rfl | decide) ⟨_, I3, _, rfl, R6⟩
          · refine mv_iload_n d_TrustDeskModel_isYear_4 rfl rfl ?_
            refine mv_bipush (v := 100) d_TrustDeskModel_isYear_5 (by decide) ?_
            have := mz_hi x3
            refine mv_icmp_gtZ (tgt := 14) (a := x3.toInt) (b := 100) d_TrustDeskModel_isYear_7 (by decide) rfl (by decide) (fun b23 => ?_) (fun b23 => ?_)
            · refine mv_iconst (v := 0) d_TrustDeskModel_isYear_14 (by decide) ?_
              refine mv_iret d_TrustDeskModel_isYear_15 rfl (by decide) ?_
              refine mv_if_eq_t (tgt := 30) d_TrustDeskModel_due_18 (by decide) (by decide) ?_
              refine mv_iconst (v := (-1)) d_TrustDeskModel_due_30 (by decide) ?_
              exact mv_iret d_TrustDeskModel_due_31 rfl (by first | rfl | decide) ⟨_, I3, _, rfl, R6⟩
            · refine mv_iconst (v := 1) d_TrustDeskModel_isYear_10 (by decide) ?_
              refine mv_goto (tgt := 15) d_TrustDeskModel_isYear_11 (by decide) ?_
              refine mv_iret d_TrustDeskModel_isYear_15 rfl (by decide) ?_
              refine mv_if_eq_f (tgt := 30) d_TrustDeskModel_due_18 (by decide) (by decide) ?_
              refine mv_aload_n d_TrustDeskModel_due_21 rfl rfl ?_
              refine mv_iload d_TrustDeskModel_due_22 rfl ?_
              obtain ⟨_, b24, -⟩ := I3.1 _ _ h_o0
              refine mv_callV (kc1 := 0) (ks1 := 0) (kc' := 0) (ks' := 0) (As := [.int x4]) (st9 := [.int x4, .ref o0]) d_TrustDeskModel_due_24 lV_TrustDeskModel_182 b24 rfl (mj_enter (by decide) (Nat.le_of_ble_eq_true rfl) ?_) rfl (Nat.le_of_ble_eq_true rfl) (Nat.le_of_ble_eq_true rfl) (Nat.le_of_ble_eq_true rfl) (hst := rfl) (fun _ _ _ h => h)
              refine mv_iload_n d_TrustDeskModel_isKnown_0 rfl rfl ?_
              have := mz_hi x4
              refine mv_if_ltZ (tgt := 16) (a := x4.toInt) d_TrustDeskModel_isKnown_1 (by decide) rfl (fun b25 => ?_) (fun b25 => ?_)
              · refine mv_iconst (v := 0) d_TrustDeskModel_isKnown_16 (by decide) ?_
                refine mv_iret d_TrustDeskModel_isKnown_17 rfl (by decide) ?_
                refine mv_if_ne_f (tgt := 32) d_TrustDeskModel_due_27 (by decide) (by decide) ?_
                refine mv_iconst (v := (-1)) d_TrustDeskModel_due_30 (by decide) ?_
                exact mv_iret d_TrustDeskModel_due_31 rfl (by first | rfl | decide) ⟨_, I3, _, rfl, R6⟩
              · refine mv_iload_n d_TrustDeskModel_isKnown_4 rfl rfl ?_
                refine mv_aload_n d_TrustDeskModel_isKnown_5 rfl rfl ?_
                obtain ⟨v27, q26⟩ := tm_atI I3 h_o0 (k := 1) rfl
                refine tr_getK q26 d_TrustDeskModel_isKnown_6 f_TrustDeskModel_164_13 ?_
                have := R6.f (k := 1) q26 rfl
                have := mz_hi x4
                have := mz_hi v27
                refine mv_icmp_gtZ (tgt := 16) (a := x4.toInt) (b := v27.toInt) d_TrustDeskModel_isKnown_9 (by decide) rfl rfl (fun b28 => ?_) (fun b28 => ?_)
                · refine mv_iconst (v := 0) d_TrustDeskModel_isKnown_16 (by decide) ?_
                  refine mv_iret d_TrustDeskModel_isKnown_17 rfl (by decide) ?_
                  refine mv_if_ne_f (tgt := 32) d_TrustDeskModel_due_27 (by decide) (by decide) ?_
                  refine mv_iconst (v := (-1)) d_TrustDeskModel_due_30 (by decide) ?_
                  exact mv_iret d_TrustDeskModel_due_31 rfl (by first | rfl | decide) ⟨_, I3, _, rfl, R6⟩
                · refine mv_iconst (v := 1) d_TrustDeskModel_isKnown_12 (by decide) ?_
                  refine mv_goto (tgt := 17) d_TrustDeskModel_isKnown_13 (by decide) ?_
                  refine mv_iret d_TrustDeskModel_isKnown_17 rfl (by decide) ?_
                  refine mv_if_ne_t (tgt := 32) d_TrustDeskModel_due_27 (by decide) (by decide) ?_
                  refine mv_aload_n d_TrustDeskModel_due_32 rfl rfl ?_
                  refine mv_iload_n d_TrustDeskModel_due_33 rfl rfl ?_
                  refine mv_iload_n d_TrustDeskModel_due_34 rfl rfl ?_
                  refine mv_iload d_TrustDeskModel_due_35 rfl ?_
                  obtain ⟨_, b35, -⟩ := I3.1 _ _ h_o0
                  refine mv_callV (kc' := 0) (ks' := 0) (As := [.int x1, .int x3, .int x4]) (st9 := [.int x4, .int x3, .int x1, .ref o0]) d_TrustDeskModel_due_37 lV_TrustDeskModel_459 b35 rfl (tc_TrustDeskModel_names_x (d := (d + 1)) (x9 := x9) (o0 := o0) (x1 := x1) (x2 := x3) (x3 := x4) h_o0 (by omega) R6 I3.start) rfl (Nat.le_of_ble_eq_true rfl) (Nat.le_of_ble_eq_true rfl) (Nat.le_of_ble_eq_true rfl) (hst := rfl) (fun b29r M30 n31 b29 => ?_)
                  obtain ⟨T32, J33, rfl, R36⟩ := b29
                  have I34 := I3.call J33 (tm_sub (by decide)) (Or.inl rfl)
                  have t37 := J33.up h_o0
                  have z38 := (ra_call I3 J33 (I3.up h_o0) (k := 43) rfl rfl rfl x1.toNatClampNeg)
                  have K39 : rC M30 o0 44 := K9.same (sA_c I3 J33 (I3.up h_o0) (by decide +kernel)) (sF_c I3 J33 (I3.up h_o0) (by decide +kernel))
                  have q40 := J33.keep h_o0 (by decide) q4
                  have q41 := J33.keep h_o0 (by decide) q13
                  have q42 := J33.keep h_o0 (by decide) q17
                  have t43 := J33.up t_a18
                  have q44 := J33.keep h_o0 (by decide) q26
                  refine mv_aload_n d_TrustDeskModel_due_40 rfl rfl ?_
                  refine mv_iload_n d_TrustDeskModel_due_41 rfl rfl ?_
                  refine mv_iload_n d_TrustDeskModel_due_42 rfl rfl ?_
                  obtain ⟨_, b51, -⟩ := I34.1 _ _ t37
                  refine mv_callV (kc' := 0) (ks' := 0) (As := [.int x1, .int x2]) (st9 := [.int x2, .int x1, .ref o0]) d_TrustDeskModel_due_43 lV_TrustDeskModel_463 b51 rfl (tc_TrustDeskModel_asks_x (d := d) (x9 := x9) (o0 := o0) (x1 := x1) (x2 := x2) t37 (by omega) R36 K39 (by omega) I34.start) rfl (Nat.le_of_ble_eq_true rfl) (Nat.le_of_ble_eq_true rfl) (Nat.le_of_ble_eq_true rfl) (hst := rfl) (fun b45r M46 n47 b45 => ?_)
                  obtain ⟨T48, J49, v52, rfl, R53, f54⟩ := b45
                  have I50 := I34.call J49 (tm_sub (by decide)) (Or.inl rfl)
                  have t55 := J49.up t37
                  have z56 := (ra_call I34 J49 (I34.up h_o0) (k := 43) rfl rfl rfl x1.toNatClampNeg).trans z38
                  have K57 : rC M46 o0 44 := K39.same (sA_c I34 J49 (I34.up h_o0) (by decide +kernel)) (sF_c I34 J49 (I34.up h_o0) (by decide +kernel))
                  clear z38
                  have q58 := J49.keep t37 (by decide) q40
                  have q59 := J49.keep t37 (by decide) q41
                  have q60 := J49.keep t37 (by decide) q42
                  have t61 := J49.up t43
                  have q62 := J49.keep t37 (by decide) q44
                  exact mv_iret d_TrustDeskModel_due_46 rfl (by first | rfl | decide) ⟨_, I50, _, rfl, R53⟩
abbrev kY_TrustDeskModel_why : mj_Y := (⟨"TrustDeskModel", "why", "(IIII)I"⟩, prog_14_method_62_code, 7, (Option.some Jvm.ClassFile.FieldType.int))
theorem d_TrustDeskModel_why_0 : decode kY_TrustDeskModel_why.2.1 0 = .ok (.aload_n 0, 1) := by decide +kernel
theorem d_TrustDeskModel_why_1 : decode kY_TrustDeskModel_why.2.1 1 = .ok (.iconst 0, 1) := by decide +kernel
theorem d_TrustDeskModel_why_2 : decode kY_TrustDeskModel_why.2.1 2 = .ok (.putfield 1, 3) := by decide +kernel
theorem d_TrustDeskModel_why_5 : decode kY_TrustDeskModel_why.2.1 5 = .ok (.aload_n 0, 1) := by decide +kernel
theorem d_TrustDeskModel_why_6 : decode kY_TrustDeskModel_why.2.1 6 = .ok (.iload_n 1, 1) := by decide +kernel
theorem d_TrustDeskModel_why_7 : decode kY_TrustDeskModel_why.2.1 7 = .ok (.iload_n 2, 1) := by decide +kernel
theorem d_TrustDeskModel_why_8 : decode kY_TrustDeskModel_why.2.1 8 = .ok (.invokevirtual 455, 3) := by decide +kernel
theorem d_TrustDeskModel_why_11 : decode kY_TrustDeskModel_why.2.1 11 = .ok (.ifCond .eq 19, 3) := by decide +kernel
theorem d_TrustDeskModel_why_30 : decode kY_TrustDeskModel_why.2.1 30 = .ok (.iconst (-1), 1) := by decide +kernel
theorem d_TrustDeskModel_why_31 : decode kY_TrustDeskModel_why.2.1 31 = .ok (.ireturn, 1) := by decide +kernel
theorem d_TrustDeskModel_why_14 : decode kY_TrustDeskModel_why.2.1 14 = .ok (.iload_n 3, 1) := by decide +kernel
theorem d_TrustDeskModel_why_15 : decode kY_TrustDeskModel_why.2.1 15 = .ok (.invokestatic 173, 3) := by decide +kernel
theorem d_TrustDeskModel_why_18 : decode kY_TrustDeskModel_why.2.1 18 = .ok (.ifCond .eq 12, 3) := by decide +kernel
theorem d_TrustDeskModel_why_21 : decode kY_TrustDeskModel_why.2.1 21 = .ok (.aload_n 0, 1) := by decide +kernel
theorem d_TrustDeskModel_why_22 : decode kY_TrustDeskModel_why.2.1 22 = .ok (.iload 4, 2) := by decide +kernel
theorem d_TrustDeskModel_why_24 : decode kY_TrustDeskModel_why.2.1 24 = .ok (.invokevirtual 182, 3) := by decide +kernel
theorem d_TrustDeskModel_why_27 : decode kY_TrustDeskModel_why.2.1 27 = .ok (.ifCond .ne 5, 3) := by decide +kernel
theorem d_TrustDeskModel_why_32 : decode kY_TrustDeskModel_why.2.1 32 = .ok (.aload_n 0, 1) := by decide +kernel
theorem d_TrustDeskModel_why_33 : decode kY_TrustDeskModel_why.2.1 33 = .ok (.iload_n 1, 1) := by decide +kernel
theorem d_TrustDeskModel_why_34 : decode kY_TrustDeskModel_why.2.1 34 = .ok (.iload_n 3, 1) := by decide +kernel
theorem d_TrustDeskModel_why_35 : decode kY_TrustDeskModel_why.2.1 35 = .ok (.iload 4, 2) := by decide +kernel
theorem d_TrustDeskModel_why_37 : decode kY_TrustDeskModel_why.2.1 37 = .ok (.invokevirtual 459, 3) := by decide +kernel
theorem d_TrustDeskModel_why_40 : decode kY_TrustDeskModel_why.2.1 40 = .ok (.bipush 80, 2) := by decide +kernel
theorem d_TrustDeskModel_why_42 : decode kY_TrustDeskModel_why.2.1 42 = .ok (.iload_n 1, 1) := by decide +kernel
theorem d_TrustDeskModel_why_43 : decode kY_TrustDeskModel_why.2.1 43 = .ok (.imul, 1) := by decide +kernel
theorem d_TrustDeskModel_why_44 : decode kY_TrustDeskModel_why.2.1 44 = .ok (.iload_n 2, 1) := by decide +kernel
theorem d_TrustDeskModel_why_45 : decode kY_TrustDeskModel_why.2.1 45 = .ok (.iadd, 1) := by decide +kernel
theorem d_TrustDeskModel_why_46 : decode kY_TrustDeskModel_why.2.1 46 = .ok (.istore 5, 2) := by decide +kernel
theorem d_TrustDeskModel_why_48 : decode kY_TrustDeskModel_why.2.1 48 = .ok (.aload_n 0, 1) := by decide +kernel
theorem d_TrustDeskModel_why_49 : decode kY_TrustDeskModel_why.2.1 49 = .ok (.aload_n 0, 1) := by decide +kernel
theorem d_TrustDeskModel_why_50 : decode kY_TrustDeskModel_why.2.1 50 = .ok (.getfield 101, 3) := by decide +kernel
theorem d_TrustDeskModel_why_53 : decode kY_TrustDeskModel_why.2.1 53 = .ok (.iload 5, 2) := by decide +kernel
theorem d_TrustDeskModel_why_55 : decode kY_TrustDeskModel_why.2.1 55 = .ok (.iaload, 1) := by decide +kernel
theorem d_TrustDeskModel_why_56 : decode kY_TrustDeskModel_why.2.1 56 = .ok (.aload_n 0, 1) := by decide +kernel
theorem d_TrustDeskModel_why_57 : decode kY_TrustDeskModel_why.2.1 57 = .ok (.getfield 38, 3) := by decide +kernel
theorem d_TrustDeskModel_why_60 : decode kY_TrustDeskModel_why.2.1 60 = .ok (.aload_n 0, 1) := by decide +kernel
theorem d_TrustDeskModel_why_61 : decode kY_TrustDeskModel_why.2.1 61 = .ok (.getfield 104, 3) := by decide +kernel
theorem d_TrustDeskModel_why_64 : decode kY_TrustDeskModel_why.2.1 64 = .ok (.iload 5, 2) := by decide +kernel
theorem d_TrustDeskModel_why_66 : decode kY_TrustDeskModel_why.2.1 66 = .ok (.iaload, 1) := by decide +kernel
theorem d_TrustDeskModel_why_67 : decode kY_TrustDeskModel_why.2.1 67 = .ok (.iaload, 1) := by decide +kernel
theorem d_TrustDeskModel_why_68 : decode kY_TrustDeskModel_why.2.1 68 = .ok (.aload_n 0, 1) := by decide +kernel
theorem d_TrustDeskModel_why_69 : decode kY_TrustDeskModel_why.2.1 69 = .ok (.getfield 41, 3) := by decide +kernel
theorem d_TrustDeskModel_why_72 : decode kY_TrustDeskModel_why.2.1 72 = .ok (.aload_n 0, 1) := by decide +kernel
theorem d_TrustDeskModel_why_73 : decode kY_TrustDeskModel_why.2.1 73 = .ok (.getfield 104, 3) := by decide +kernel
theorem d_TrustDeskModel_why_76 : decode kY_TrustDeskModel_why.2.1 76 = .ok (.iload 5, 2) := by decide +kernel
theorem d_TrustDeskModel_why_78 : decode kY_TrustDeskModel_why.2.1 78 = .ok (.iaload, 1) := by decide +kernel
theorem d_TrustDeskModel_why_79 : decode kY_TrustDeskModel_why.2.1 79 = .ok (.iaload, 1) := by decide +kernel
theorem d_TrustDeskModel_why_80 : decode kY_TrustDeskModel_why.2.1 80 = .ok (.invokevirtual 447, 3) := by decide +kernel
theorem d_TrustDeskModel_why_83 : decode kY_TrustDeskModel_why.2.1 83 = .ok (.istore 6, 2) := by decide +kernel
theorem d_TrustDeskModel_why_85 : decode kY_TrustDeskModel_why.2.1 85 = .ok (.aload_n 0, 1) := by decide +kernel
theorem d_TrustDeskModel_why_86 : decode kY_TrustDeskModel_why.2.1 86 = .ok (.getfield 409, 3) := by decide +kernel
theorem d_TrustDeskModel_why_89 : decode kY_TrustDeskModel_why.2.1 89 = .ok (.ireturn, 1) := by decide +kernel
def w_TrustDeskModel_why_x : List Nat := [1300, 1331, 20029, 20030]
set_option maxHeartbeats 100000000 in theorem tc_TrustDeskModel_why_x {g : mj_G} {l : Launch} {d : Nat} {T0 : tm_H} {M0 : mj_M} {n0 x9 : Nat} {o0 : Nat} {x1 : Int32} {x2 : Int32} {x3 : Int32} {x4 : Int32} (h_o0 : T0 o0 = some (0, 13, 0)) (yR : rI M0 o0) (yC : rC M0 o0 44) (I0 : tm_I tm_FT (tm_in w_TrustDeskModel_why_x) x9 T0 M0 n0 T0 M0 n0) : mj_Met g l kY_TrustDeskModel_why (d + 3) [.ref o0, .int x1, .int x2, .int x3, .int x4] M0 n0 0 0 (tm_Q tm_FT (tm_in w_TrustDeskModel_why_x) x9 T0 M0 n0 (fun r _ M => ∃ v : Int32, r = some (.int v) ∧ rI M o0)) := by
  refine mj_enter (by decide) (Nat.le_of_ble_eq_true rfl) ?_
  have K1 : rC M0 o0 44 := yC
  refine mv_aload_n d_TrustDeskModel_why_0 rfl rfl ?_
  refine mv_iconst (v := 0) d_TrustDeskModel_why_1 (by decide) ?_
  refine tr_putR (k := 0) I0 yR h_o0 rfl ⟨_, rfl⟩ (fun _ h => by cases h) rfl (fun lo hi h => by cases h) (Or.inl (by decide)) d_TrustDeskModel_why_2 p_TrustDeskModel_1_13 rfl rfl (fun M2 I3 q4 K5 R6 A7 V8 => ?_)
  have K9 : rC M2 o0 44 := K1.same (sA_f A7 (by decide)) (sF_f V8 (by decide))
  refine mv_aload_n d_TrustDeskModel_why_5 rfl rfl ?_
  refine mv_iload_n d_TrustDeskModel_why_6 rfl rfl ?_
  refine mv_iload_n d_TrustDeskModel_why_7 rfl rfl ?_
  obtain ⟨_, b10, -⟩ := I3.1 _ _ h_o0
  refine mv_callV (kc1 := 0) (ks1 := 0) (kc' := 0) (ks' := 0) (As := [.int x1, .int x2]) (st9 := [.int x2, .int x1, .ref o0]) d_TrustDeskModel_why_8 lV_TrustDeskModel_455 b10 rfl (mj_enter (by decide) (Nat.le_of_ble_eq_true rfl) ?_) rfl (Nat.le_of_ble_eq_true rfl) (Nat.le_of_ble_eq_true rfl) (Nat.le_of_ble_eq_true rfl) (hst := rfl) (fun _ _ _ h => h)
  refine mv_aload_n d_TrustDeskModel_isEnd_0 rfl rfl ?_
  refine mv_iload_n d_TrustDeskModel_isEnd_1 rfl rfl ?_
  obtain ⟨_, b11, -⟩ := I3.1 _ _ h_o0
  refine mv_callV (kc1 := 0) (ks1 := 0) (kc' := 0) (ks' := 0) (As := [.int x1]) (st9 := [.int x1, .ref o0]) d_TrustDeskModel_isEnd_2 lV_TrustDeskModel_418 b11 rfl (mj_enter (by decide) (Nat.le_of_ble_eq_true rfl) ?_) rfl (Nat.le_of_ble_eq_true rfl) (Nat.le_of_ble_eq_true rfl) (Nat.le_of_ble_eq_true rfl) (hst := rfl) (fun _ _ _ h => h)
  refine mv_iload_n d_TrustDeskModel_isFund_0 rfl rfl ?_
  have := mz_hi x1
  refine mv_if_ltZ (tgt := 16) (a := x1.toInt) d_TrustDeskModel_isFund_1 (by decide) rfl (fun b12 => ?_) (fun b12 => ?_)
  · refine mv_iconst (v := 0) d_TrustDeskModel_isFund_16 (by decide) ?_
    refine mv_iret d_TrustDeskModel_isFund_17 rfl (by decide) ?_
    refine mv_if_eq_t (tgt := 26) d_TrustDeskModel_isEnd_5 (by decide) (by decide) ?_
    refine mv_iconst (v := 0) d_TrustDeskModel_isEnd_26 (by decide) ?_
    refine mv_iret d_TrustDeskModel_isEnd_27 rfl (by decide) ?_
    refine mv_if_eq_t (tgt := 30) d_TrustDeskModel_why_11 (by decide) (by decide) ?_
    refine mv_iconst (v := (-1)) d_TrustDeskModel_why_30 (by decide) ?_
    exact mv_iret d_TrustDeskModel_why_31 rfl (by first | rfl | decide) ⟨_, I3, _, rfl, R6⟩
  · refine mv_iload_n d_TrustDeskModel_isFund_4 rfl rfl ?_
    refine mv_aload_n d_TrustDeskModel_isFund_5 rfl rfl ?_
    obtain ⟨v14, q13⟩ := tm_atI I3 h_o0 (k := 32) rfl
    refine tr_getK q13 d_TrustDeskModel_isFund_6 f_TrustDeskModel_415_13 ?_
    have := R6.f (k := 32) q13 rfl
    have := mz_hi x1
    have := mz_hi v14
    refine mv_icmp_geZ (tgt := 16) (a := x1.toInt) (b := v14.toInt) d_TrustDeskModel_isFund_9 (by decide) rfl rfl (fun b15 => ?_) (fun b15 => ?_)
    · refine mv_iconst (v := 0) d_TrustDeskModel_isFund_16 (by decide) ?_
      refine mv_iret d_TrustDeskModel_isFund_17 rfl (by decide) ?_
      refine mv_if_eq_t (tgt := 26) d_TrustDeskModel_isEnd_5 (by decide) (by decide) ?_
      refine mv_iconst (v := 0) d_TrustDeskModel_isEnd_26 (by decide) ?_
      refine mv_iret d_TrustDeskModel_isEnd_27 rfl (by decide) ?_
      refine mv_if_eq_t (tgt := 30) d_TrustDeskModel_why_11 (by decide) (by decide) ?_
      refine mv_iconst (v := (-1)) d_TrustDeskModel_why_30 (by decide) ?_
      exact mv_iret d_TrustDeskModel_why_31 rfl (by first | rfl | decide) ⟨_, I3, _, rfl, R6⟩
    · refine mv_iconst (v := 1) d_TrustDeskModel_isFund_12 (by decide) ?_
      refine mv_goto (tgt := 17) d_TrustDeskModel_isFund_13 (by decide) ?_
      refine mv_iret d_TrustDeskModel_isFund_17 rfl (by decide) ?_
      refine mv_if_eq_f (tgt := 26) d_TrustDeskModel_isEnd_5 (by decide) (by decide) ?_
      refine mv_iload_n d_TrustDeskModel_isEnd_8 rfl rfl ?_
      have := mz_hi x2
      refine mv_if_ltZ (tgt := 26) (a := x2.toInt) d_TrustDeskModel_isEnd_9 (by decide) rfl (fun b16 => ?_) (fun b16 => ?_)
      · refine mv_iconst (v := 0) d_TrustDeskModel_isEnd_26 (by decide) ?_
        refine mv_iret d_TrustDeskModel_isEnd_27 rfl (by decide) ?_
        refine mv_if_eq_t (tgt := 30) d_TrustDeskModel_why_11 (by decide) (by decide) ?_
        refine mv_iconst (v := (-1)) d_TrustDeskModel_why_30 (by decide) ?_
        exact mv_iret d_TrustDeskModel_why_31 rfl (by first | rfl | decide) ⟨_, I3, _, rfl, R6⟩
      · refine mv_iload_n d_TrustDeskModel_isEnd_12 rfl rfl ?_
        refine mv_aload_n d_TrustDeskModel_isEnd_13 rfl rfl ?_
        obtain ⟨a18, q17, t_a18⟩ := tm_atR I3 h_o0 (k := 43) rfl
        refine tr_getK q17 d_TrustDeskModel_isEnd_14 f_TrustDeskModel_98_13 ?_
        refine mv_iload_n d_TrustDeskModel_isEnd_17 rfl rfl ?_
        refine tr_ialdR (o := o0) (k := 43) I3 q17 t_a18 (by decide) d_TrustDeskModel_isEnd_18 (vp_in_iff.mpr (by omega)) (fun v19 e20 => ?_)
        have := R6.a (k := 43) rfl (x1 : Int32).toNatClampNeg
        have := mz_hi x2
        have := mz_hi v19
        refine mv_icmp_geZ (tgt := 26) (a := x2.toInt) (b := v19.toInt) d_TrustDeskModel_isEnd_19 (by decide) rfl rfl (fun b21 => ?_) (fun b21 => ?_)
        · refine mv_iconst (v := 0) d_TrustDeskModel_isEnd_26 (by decide) ?_
          refine mv_iret d_TrustDeskModel_isEnd_27 rfl (by decide) ?_
          refine mv_if_eq_t (tgt := 30) d_TrustDeskModel_why_11 (by decide) (by decide) ?_
          refine mv_iconst (v := (-1)) d_TrustDeskModel_why_30 (by decide) ?_
          exact mv_iret d_TrustDeskModel_why_31 rfl (by first | rfl | decide) ⟨_, I3, _, rfl, R6⟩
        · refine mv_iconst (v := 1) d_TrustDeskModel_isEnd_22 (by decide) ?_
          refine mv_goto (tgt := 27) d_TrustDeskModel_isEnd_23 (by decide) ?_
          refine mv_iret d_TrustDeskModel_isEnd_27 rfl (by decide) ?_
          refine mv_if_eq_f (tgt := 30) d_TrustDeskModel_why_11 (by decide) (by decide) ?_
          refine mv_iload_n d_TrustDeskModel_why_14 rfl rfl ?_
          refine mv_callS (kc1 := 0) (ks1 := 0) (kc' := 0) (ks' := 0) (As := [.int x3]) (st9 := [.int x3]) d_TrustDeskModel_why_15 lS_TrustDeskModel_173 (mj_enter (by decide) (Nat.le_of_ble_eq_true rfl) ?_) rfl (Nat.le_of_ble_eq_true rfl) (Nat.le_of_ble_eq_true rfl) (Nat.le_of_ble_eq_true rfl) (hst := rfl) (fun _ _ _ h => h)
          refine mv_iload_n d_TrustDeskModel_isYear_0 rfl rfl ?_
          have := mz_hi x3
          refine mv_if_ltZ (tgt := 14) (a := x3.toInt) d_TrustDeskModel_isYear_1 (by decide) rfl (fun b22 => ?_) (fun b22 => ?_)
          · refine mv_iconst (v := 0) d_TrustDeskModel_isYear_14 (by decide) ?_
            refine mv_iret d_TrustDeskModel_isYear_15 rfl (by decide) ?_
            refine mv_if_eq_t (tgt := 30) d_TrustDeskModel_why_18 (by decide) (by decide) ?_
            refine mv_iconst (v := (-1)) d_TrustDeskModel_why_30 (by decide) ?_
            exact mv_iret d_TrustDeskModel_why_31 rfl (by first | rfl | decide) ⟨_, I3, _, rfl, R6⟩
          · refine mv_iload_n d_TrustDeskModel_isYear_4 rfl rfl ?_
            refine mv_bipush (v := 100) d_TrustDeskModel_isYear_5 (by decide) ?_
            have := mz_hi x3
            refine mv_icmp_gtZ (tgt := 14) (a := x3.toInt) (b := 100) d_TrustDeskModel_isYear_7 (by decide) rfl (by decide) (fun b23 => ?_) (fun b23 => ?_)
            · refine mv_iconst (v := 0) d_TrustDeskModel_isYear_14 (by decide) ?_
              refine mv_iret d_TrustDeskModel_isYear_15 rfl (by decide) ?_
              refine mv_if_eq_t (tgt := 30) d_TrustDeskModel_why_18 (by decide) (by decide) ?_
              refine mv_iconst (v := (-1)) d_TrustDeskModel_why_30 (by decide) ?_
              exact mv_iret d_TrustDeskModel_why_31 rfl (by first | rfl | decide) ⟨_, I3, _, rfl, R6⟩
            · refine mv_iconst (v := 1) d_TrustDeskModel_isYear_10 (by decide) ?_
              refine mv_goto (tgt := 15) d_TrustDeskModel_isYear_11 (by decide) ?_
              refine mv_iret d_TrustDeskModel_isYear_15 rfl (by decide) ?_
              refine mv_if_eq_f (tgt := 30) d_TrustDeskModel_why_18 (by decide) (by decide) ?_
              refine mv_aload_n d_TrustDeskModel_why_21 rfl rfl ?_
              refine mv_iload d_TrustDeskModel_why_22 rfl ?_
              obtain ⟨_, b24, -⟩ := I3.1 _ _ h_o0
              refine mv_callV (kc1 := 0) (ks1 := 0) (kc' := 0) (ks' := 0) (As := [.int x4]) (st9 := [.int x4, .ref o0]) d_TrustDeskModel_why_24 lV_TrustDeskModel_182 b24 rfl (mj_enter (by decide) (Nat.le_of_ble_eq_true rfl) ?_) rfl (Nat.le_of_ble_eq_true rfl) (Nat.le_of_ble_eq_true rfl) (Nat.le_of_ble_eq_true rfl) (hst := rfl) (fun _ _ _ h => h)
              refine mv_iload_n d_TrustDeskModel_isKnown_0 rfl rfl ?_
              have := mz_hi x4
              refine mv_if_ltZ (tgt := 16) (a := x4.toInt) d_TrustDeskModel_isKnown_1 (by decide) rfl (fun b25 => ?_) (fun b25 => ?_)
              · refine mv_iconst (v := 0) d_TrustDeskModel_isKnown_16 (by decide) ?_
                refine mv_iret d_TrustDeskModel_isKnown_17 rfl (by decide) ?_
                refine mv_if_ne_f (tgt := 32) d_TrustDeskModel_why_27 (by decide) (by decide) ?_
                refine mv_iconst (v := (-1)) d_TrustDeskModel_why_30 (by decide) ?_
                exact mv_iret d_TrustDeskModel_why_31 rfl (by first | rfl | decide) ⟨_, I3, _, rfl, R6⟩
              · refine mv_iload_n d_TrustDeskModel_isKnown_4 rfl rfl ?_
                refine mv_aload_n d_TrustDeskModel_isKnown_5 rfl rfl ?_
                obtain ⟨v27, q26⟩ := tm_atI I3 h_o0 (k := 1) rfl
                refine tr_getK q26 d_TrustDeskModel_isKnown_6 f_TrustDeskModel_164_13 ?_
                have := R6.f (k := 1) q26 rfl
                have := mz_hi x4
                have := mz_hi v27
                refine mv_icmp_gtZ (tgt := 16) (a := x4.toInt) (b := v27.toInt) d_TrustDeskModel_isKnown_9 (by decide) rfl rfl (fun b28 => ?_) (fun b28 => ?_)
                · refine mv_iconst (v := 0) d_TrustDeskModel_isKnown_16 (by decide) ?_
                  refine mv_iret d_TrustDeskModel_isKnown_17 rfl (by decide) ?_
                  refine mv_if_ne_f (tgt := 32) d_TrustDeskModel_why_27 (by decide) (by decide) ?_
                  refine mv_iconst (v := (-1)) d_TrustDeskModel_why_30 (by decide) ?_
                  exact mv_iret d_TrustDeskModel_why_31 rfl (by first | rfl | decide) ⟨_, I3, _, rfl, R6⟩
                · refine mv_iconst (v := 1) d_TrustDeskModel_isKnown_12 (by decide) ?_
                  refine mv_goto (tgt := 17) d_TrustDeskModel_isKnown_13 (by decide) ?_
                  refine mv_iret d_TrustDeskModel_isKnown_17 rfl (by decide) ?_
                  refine mv_if_ne_t (tgt := 32) d_TrustDeskModel_why_27 (by decide) (by decide) ?_
                  refine mv_aload_n d_TrustDeskModel_why_32 rfl rfl ?_
                  refine mv_iload_n d_TrustDeskModel_why_33 rfl rfl ?_
                  refine mv_iload_n d_TrustDeskModel_why_34 rfl rfl ?_
                  refine mv_iload d_TrustDeskModel_why_35 rfl ?_
                  obtain ⟨_, b35, -⟩ := I3.1 _ _ h_o0
                  refine mv_callV (kc' := 0) (ks' := 0) (As := [.int x1, .int x3, .int x4]) (st9 := [.int x4, .int x3, .int x1, .ref o0]) d_TrustDeskModel_why_37 lV_TrustDeskModel_459 b35 rfl (tc_TrustDeskModel_names_x (d := d) (x9 := x9) (o0 := o0) (x1 := x1) (x2 := x3) (x3 := x4) h_o0 (by omega) R6 I3.start) rfl (Nat.le_of_ble_eq_true rfl) (Nat.le_of_ble_eq_true rfl) (Nat.le_of_ble_eq_true rfl) (hst := rfl) (fun b29r M30 n31 b29 => ?_)
                  obtain ⟨T32, J33, rfl, R36⟩ := b29
                  have I34 := I3.call J33 (tm_sub (by decide)) (Or.inl rfl)
                  have t37 := J33.up h_o0
                  have z38 := (ra_call I3 J33 (I3.up h_o0) (k := 43) rfl rfl rfl x1.toNatClampNeg)
                  have K39 : rC M30 o0 44 := K9.same (sA_c I3 J33 (I3.up h_o0) (by decide +kernel)) (sF_c I3 J33 (I3.up h_o0) (by decide +kernel))
                  have q40 := J33.keep h_o0 (by decide) q4
                  have q41 := J33.keep h_o0 (by decide) q13
                  have q42 := J33.keep h_o0 (by decide) q17
                  have t43 := J33.up t_a18
                  have q44 := J33.keep h_o0 (by decide) q26
                  refine mv_bipush (v := 80) d_TrustDeskModel_why_40 (by decide) ?_
                  refine mv_iload_n d_TrustDeskModel_why_42 rfl rfl ?_
                  refine mv_imul d_TrustDeskModel_why_43 ?_
                  refine mv_iload_n d_TrustDeskModel_why_44 rfl rfl ?_
                  refine mv_iadd d_TrustDeskModel_why_45 ?_
                  refine mv_istore (lv' := [(5, .int ((80 * x1) + x2)), (0, .ref o0), (1, .int x1), (2, .int x2), (3, .int x3), (4, .int x4)]) d_TrustDeskModel_why_46 (by decide) rfl ?_
                  refine mv_aload_n d_TrustDeskModel_why_48 rfl rfl ?_
                  refine mv_aload_n d_TrustDeskModel_why_49 rfl rfl ?_
                  obtain ⟨a46, q45, t_a46⟩ := tm_atR I34 t37 (k := 44) rfl
                  refine tr_getK q45 d_TrustDeskModel_why_50 f_TrustDeskModel_101_13 ?_
                  refine mv_iload d_TrustDeskModel_why_53 rfl ?_
                  have b47 : (80 * x1 : Int32).toInt = (80 * x1.toInt) := mz_mul2 (by decide) rfl (by omega) (by omega)
                  have b48 : ((80 * x1) + x2 : Int32).toInt = ((80 * x1.toInt) + x2.toInt) := mz_add2 b47 rfl (by omega) (by omega)
                  refine tr_ialdR (o := o0) (k := 44) I34 q45 t_a46 (by decide) d_TrustDeskModel_why_55 (vp_in_iff.mpr (by omega)) (fun v49 e50 => ?_)
                  have := R36.a (k := 44) rfl (((80 * x1) + x2) : Int32).toNatClampNeg
                  refine mv_aload_n d_TrustDeskModel_why_56 rfl rfl ?_
                  obtain ⟨a52, q51, t_a52⟩ := tm_atR I34 t37 (k := 11) rfl
                  refine tr_getK q51 d_TrustDeskModel_why_57 f_TrustDeskModel_38_13 ?_
                  refine mv_aload_n d_TrustDeskModel_why_60 rfl rfl ?_
                  obtain ⟨a54, q53, t_a54⟩ := tm_atR I34 t37 (k := 45) rfl
                  refine tr_getK q53 d_TrustDeskModel_why_61 f_TrustDeskModel_104_13 ?_
                  refine mv_iload d_TrustDeskModel_why_64 rfl ?_
                  have b55 : (80 * x1 : Int32).toInt = (80 * x1.toInt) := mz_mul2 (by decide) rfl (by omega) (by omega)
                  have b56 : ((80 * x1) + x2 : Int32).toInt = ((80 * x1.toInt) + x2.toInt) := mz_add2 b55 rfl (by omega) (by omega)
                  refine tr_ialdR (o := o0) (k := 45) I34 q53 t_a54 (by decide) d_TrustDeskModel_why_66 (vp_in_iff.mpr (by omega)) (fun v57 e58 => ?_)
                  have := R36.a (k := 45) rfl (((80 * x1) + x2) : Int32).toNatClampNeg
                  refine tr_ialdR (o := o0) (k := 11) I34 q51 t_a52 (by decide) d_TrustDeskModel_why_67 (vp_in_iff.mpr (by omega)) (fun v59 e60 => ?_)
                  have := R36.a (k := 11) rfl (v57 : Int32).toNatClampNeg
                  refine mv_aload_n d_TrustDeskModel_why_68 rfl rfl ?_
                  obtain ⟨a62, q61, t_a62⟩ := tm_atR I34 t37 (k := 12) rfl
                  refine tr_getK q61 d_TrustDeskModel_why_69 f_TrustDeskModel_41_13 ?_
                  refine mv_aload_n d_TrustDeskModel_why_72 rfl rfl ?_
                  refine tr_getK (k := 45) q53 d_TrustDeskModel_why_73 f_TrustDeskModel_104_13 ?_
                  refine mv_iload d_TrustDeskModel_why_76 rfl ?_
                  have b63 : (80 * x1 : Int32).toInt = (80 * x1.toInt) := mz_mul2 (by decide) rfl (by omega) (by omega)
                  have b64 : ((80 * x1) + x2 : Int32).toInt = ((80 * x1.toInt) + x2.toInt) := mz_add2 b63 rfl (by omega) (by omega)
                  refine tr_ialdR (o := o0) (k := 45) I34 q53 t_a54 (by decide) d_TrustDeskModel_why_78 (vp_in_iff.mpr (by omega)) (fun v65 e66 => ?_)
                  have := R36.a (k := 45) rfl (((80 * x1) + x2) : Int32).toNatClampNeg
                  refine tr_ialdR (o := o0) (k := 12) I34 q61 t_a62 (by decide) d_TrustDeskModel_why_79 (vp_in_iff.mpr (by omega)) (fun v67 e68 => ?_)
                  have := R36.a (k := 12) rfl (v65 : Int32).toNatClampNeg
                  obtain ⟨_, b75, -⟩ := I34.1 _ _ t37
                  refine mv_callV (kc' := 0) (ks' := 0) (As := [.int v49, .int v59, .int v67]) (st9 := [.int v67, .int v59, .int v49, .ref o0]) d_TrustDeskModel_why_80 lV_TrustDeskModel_447 b75 rfl (tc_TrustDeskModel_works_x (d := d) (x9 := x9) (o0 := o0) (x1 := v49) (x2 := v59) (x3 := v67) t37 (by omega) R36 (by have := (rC.w1 K39 R36 (f := x1) (e := x2) (k := ((80 * x1) + x2).toNatClampNeg) (r := v57) (r1 := v65) (by omega) (by omega) (by omega) (by have := mz_nat9 (i := ((80 * x1) + x2)) (by omega); have := mz_nat9 (i := x2) (by omega); have := mz_nat9 (i := x1) (by omega); omega) e50 (by omega) (by omega) e60 e68).1; have := R36.2 11 _ _ rfl v57.toNatClampNeg; have := R36.2 12 _ _ rfl v65.toNatClampNeg; omega) (rC.w1 K39 R36 (f := x1) (e := x2) (k := ((80 * x1) + x2).toNatClampNeg) (r := v57) (r1 := v65) (by omega) (by omega) (by omega) (by have := mz_nat9 (i := ((80 * x1) + x2)) (by omega); have := mz_nat9 (i := x2) (by omega); have := mz_nat9 (i := x1) (by omega); omega) e50 (by omega) (by omega) e60 e68).2 I34.start) rfl (Nat.le_of_ble_eq_true rfl) (Nat.le_of_ble_eq_true rfl) (Nat.le_of_ble_eq_true rfl) (hst := rfl) (fun b69r M70 n71 b69 => ?_)
                  obtain ⟨T72, J73, v76, rfl, R77⟩ := b69
                  have I74 := I34.call J73 (tm_sub (by decide)) (Or.inl rfl)
                  have t78 := J73.up t37
                  have z79 := (ra_call I34 J73 (I34.up h_o0) (k := 43) rfl rfl rfl x1.toNatClampNeg).trans z38
                  have z80 := (ra_call I34 J73 (I34.up h_o0) (k := 45) rfl rfl rfl (((80 * x1) + x2).toNatClampNeg))
                  have z81 := (ra_call I34 J73 (I34.up h_o0) (k := 45) rfl rfl rfl (((80 * x1) + x2).toNatClampNeg))
                  have K82 : rC M70 o0 44 := K39.same (sA_c I34 J73 (I34.up h_o0) (by decide +kernel)) (sF_c I34 J73 (I34.up h_o0) (by decide +kernel))
                  clear z38
                  have q83 := J73.keep t37 (by decide) q40
                  have q84 := J73.keep t37 (by decide) q41
                  have q85 := J73.keep t37 (by decide) q42
                  have t86 := J73.up t43
                  have q87 := J73.keep t37 (by decide) q44
                  have q88 := J73.keep t37 (by decide) q45
                  have t89 := J73.up t_a46
                  have q90 := J73.keep t37 (by decide) q51
                  have t91 := J73.up t_a52
                  have q92 := J73.keep t37 (by decide) q53
                  have t93 := J73.up t_a54
                  have q94 := J73.keep t37 (by decide) q61
                  have t95 := J73.up t_a62
                  refine mv_istore (lv' := [(6, .int v76), (5, .int ((80 * x1) + x2)), (0, .ref o0), (1, .int x1), (2, .int x2), (3, .int x3), (4, .int x4)]) d_TrustDeskModel_why_83 (by decide) rfl ?_
                  refine mv_aload_n d_TrustDeskModel_why_85 rfl rfl ?_
                  obtain ⟨v97, q96⟩ := tm_atI I74 t78 (k := 31) rfl
                  refine tr_getK q96 d_TrustDeskModel_why_86 f_TrustDeskModel_409_13 ?_
                  exact mv_iret d_TrustDeskModel_why_89 rfl (by first | rfl | decide) ⟨_, I74, _, rfl, R77⟩
