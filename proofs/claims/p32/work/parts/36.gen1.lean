abbrev kY_TrustDeskModel_factAt : mj_Y := (⟨"TrustDeskModel", "factAt", "(III)I"⟩, prog_14_method_9_code, 6, (Option.some Jvm.ClassFile.FieldType.int))
theorem d_TrustDeskModel_factAt_0 : decode kY_TrustDeskModel_factAt.2.1 0 = .ok (.iconst (-1), 1) := by decide +kernel
theorem d_TrustDeskModel_factAt_1 : decode kY_TrustDeskModel_factAt.2.1 1 = .ok (.istore 4, 2) := by decide +kernel
theorem d_TrustDeskModel_factAt_3 : decode kY_TrustDeskModel_factAt.2.1 3 = .ok (.aload_n 0, 1) := by decide +kernel
theorem d_TrustDeskModel_factAt_4 : decode kY_TrustDeskModel_factAt.2.1 4 = .ok (.getfield 179, 3) := by decide +kernel
theorem f_TrustDeskModel_179_13 : mj_fl "TrustDeskModel" 179 13 2 := ⟨kR_TrustDeskModel, kF_TrustDeskModel, 72, "TrustDeskModel", rfl, kg_13, by decide, (mj_in1 (List.mem_of_getElem? (i := 1388) (by decide +kernel)) rfl), Or.inl rfl⟩
theorem d_TrustDeskModel_factAt_7 : decode kY_TrustDeskModel_factAt.2.1 7 = .ok (.iconst 1, 1) := by decide +kernel
theorem d_TrustDeskModel_factAt_8 : decode kY_TrustDeskModel_factAt.2.1 8 = .ok (.isub, 1) := by decide +kernel
theorem d_TrustDeskModel_factAt_9 : decode kY_TrustDeskModel_factAt.2.1 9 = .ok (.istore 5, 2) := by decide +kernel
theorem d_TrustDeskModel_factAt_11 : decode kY_TrustDeskModel_factAt.2.1 11 = .ok (.iload 5, 2) := by decide +kernel
theorem d_TrustDeskModel_factAt_13 : decode kY_TrustDeskModel_factAt.2.1 13 = .ok (.ifCond .lt 90, 3) := by decide +kernel
theorem d_TrustDeskModel_factAt_103 : decode kY_TrustDeskModel_factAt.2.1 103 = .ok (.iload 4, 2) := by decide +kernel
theorem d_TrustDeskModel_factAt_105 : decode kY_TrustDeskModel_factAt.2.1 105 = .ok (.iconst (-1), 1) := by decide +kernel
theorem d_TrustDeskModel_factAt_106 : decode kY_TrustDeskModel_factAt.2.1 106 = .ok (.if_icmp .ne 7, 3) := by decide +kernel
theorem d_TrustDeskModel_factAt_113 : decode kY_TrustDeskModel_factAt.2.1 113 = .ok (.aload_n 0, 1) := by decide +kernel
theorem d_TrustDeskModel_factAt_114 : decode kY_TrustDeskModel_factAt.2.1 114 = .ok (.getfield 13, 3) := by decide +kernel
theorem f_TrustDeskModel_13_13 : mj_fl "TrustDeskModel" 13 13 3 := ⟨kR_TrustDeskModel, kF_TrustDeskModel, 72, "TrustDeskModel", rfl, kg_13, by decide, (mj_in1 (List.mem_of_getElem? (i := 1389) (by decide +kernel)) rfl), Or.inl rfl⟩
theorem d_TrustDeskModel_factAt_117 : decode kY_TrustDeskModel_factAt.2.1 117 = .ok (.iconst 4, 1) := by decide +kernel
theorem d_TrustDeskModel_factAt_118 : decode kY_TrustDeskModel_factAt.2.1 118 = .ok (.iload 4, 2) := by decide +kernel
theorem d_TrustDeskModel_factAt_120 : decode kY_TrustDeskModel_factAt.2.1 120 = .ok (.imul, 1) := by decide +kernel
theorem d_TrustDeskModel_factAt_121 : decode kY_TrustDeskModel_factAt.2.1 121 = .ok (.iconst 2, 1) := by decide +kernel
theorem d_TrustDeskModel_factAt_122 : decode kY_TrustDeskModel_factAt.2.1 122 = .ok (.iadd, 1) := by decide +kernel
theorem d_TrustDeskModel_factAt_123 : decode kY_TrustDeskModel_factAt.2.1 123 = .ok (.iaload, 1) := by decide +kernel
theorem d_TrustDeskModel_factAt_124 : decode kY_TrustDeskModel_factAt.2.1 124 = .ok (.ireturn, 1) := by decide +kernel
theorem d_TrustDeskModel_factAt_109 : decode kY_TrustDeskModel_factAt.2.1 109 = .ok (.iconst 0, 1) := by decide +kernel
theorem d_TrustDeskModel_factAt_110 : decode kY_TrustDeskModel_factAt.2.1 110 = .ok (.goto 14, 3) := by decide +kernel
theorem d_TrustDeskModel_factAt_16 : decode kY_TrustDeskModel_factAt.2.1 16 = .ok (.aload_n 0, 1) := by decide +kernel
theorem d_TrustDeskModel_factAt_17 : decode kY_TrustDeskModel_factAt.2.1 17 = .ok (.getfield 13, 3) := by decide +kernel
theorem d_TrustDeskModel_factAt_20 : decode kY_TrustDeskModel_factAt.2.1 20 = .ok (.iconst 4, 1) := by decide +kernel
theorem d_TrustDeskModel_factAt_21 : decode kY_TrustDeskModel_factAt.2.1 21 = .ok (.iload 5, 2) := by decide +kernel
theorem d_TrustDeskModel_factAt_23 : decode kY_TrustDeskModel_factAt.2.1 23 = .ok (.imul, 1) := by decide +kernel
theorem d_TrustDeskModel_factAt_24 : decode kY_TrustDeskModel_factAt.2.1 24 = .ok (.iaload, 1) := by decide +kernel
theorem d_TrustDeskModel_factAt_25 : decode kY_TrustDeskModel_factAt.2.1 25 = .ok (.iload_n 1, 1) := by decide +kernel
theorem d_TrustDeskModel_factAt_26 : decode kY_TrustDeskModel_factAt.2.1 26 = .ok (.if_icmp .ne 71, 3) := by decide +kernel
theorem d_TrustDeskModel_factAt_97 : decode kY_TrustDeskModel_factAt.2.1 97 = .ok (.iinc 5 (-1), 3) := by decide +kernel
theorem d_TrustDeskModel_factAt_100 : decode kY_TrustDeskModel_factAt.2.1 100 = .ok (.goto (-89), 3) := by decide +kernel
theorem d_TrustDeskModel_factAt_29 : decode kY_TrustDeskModel_factAt.2.1 29 = .ok (.aload_n 0, 1) := by decide +kernel
theorem d_TrustDeskModel_factAt_30 : decode kY_TrustDeskModel_factAt.2.1 30 = .ok (.getfield 13, 3) := by decide +kernel
theorem d_TrustDeskModel_factAt_33 : decode kY_TrustDeskModel_factAt.2.1 33 = .ok (.iconst 4, 1) := by decide +kernel
theorem d_TrustDeskModel_factAt_34 : decode kY_TrustDeskModel_factAt.2.1 34 = .ok (.iload 5, 2) := by decide +kernel
theorem d_TrustDeskModel_factAt_36 : decode kY_TrustDeskModel_factAt.2.1 36 = .ok (.imul, 1) := by decide +kernel
theorem d_TrustDeskModel_factAt_37 : decode kY_TrustDeskModel_factAt.2.1 37 = .ok (.iconst 1, 1) := by decide +kernel
theorem d_TrustDeskModel_factAt_38 : decode kY_TrustDeskModel_factAt.2.1 38 = .ok (.iadd, 1) := by decide +kernel
theorem d_TrustDeskModel_factAt_39 : decode kY_TrustDeskModel_factAt.2.1 39 = .ok (.iaload, 1) := by decide +kernel
theorem d_TrustDeskModel_factAt_40 : decode kY_TrustDeskModel_factAt.2.1 40 = .ok (.iload_n 2, 1) := by decide +kernel
theorem d_TrustDeskModel_factAt_41 : decode kY_TrustDeskModel_factAt.2.1 41 = .ok (.if_icmp .gt 56, 3) := by decide +kernel
theorem d_TrustDeskModel_factAt_44 : decode kY_TrustDeskModel_factAt.2.1 44 = .ok (.aload_n 0, 1) := by decide +kernel
theorem d_TrustDeskModel_factAt_45 : decode kY_TrustDeskModel_factAt.2.1 45 = .ok (.getfield 13, 3) := by decide +kernel
theorem d_TrustDeskModel_factAt_48 : decode kY_TrustDeskModel_factAt.2.1 48 = .ok (.iconst 4, 1) := by decide +kernel
theorem d_TrustDeskModel_factAt_49 : decode kY_TrustDeskModel_factAt.2.1 49 = .ok (.iload 5, 2) := by decide +kernel
theorem d_TrustDeskModel_factAt_51 : decode kY_TrustDeskModel_factAt.2.1 51 = .ok (.imul, 1) := by decide +kernel
theorem d_TrustDeskModel_factAt_52 : decode kY_TrustDeskModel_factAt.2.1 52 = .ok (.iconst 3, 1) := by decide +kernel
theorem d_TrustDeskModel_factAt_53 : decode kY_TrustDeskModel_factAt.2.1 53 = .ok (.iadd, 1) := by decide +kernel
theorem d_TrustDeskModel_factAt_54 : decode kY_TrustDeskModel_factAt.2.1 54 = .ok (.iaload, 1) := by decide +kernel
theorem d_TrustDeskModel_factAt_55 : decode kY_TrustDeskModel_factAt.2.1 55 = .ok (.iload_n 3, 1) := by decide +kernel
theorem d_TrustDeskModel_factAt_56 : decode kY_TrustDeskModel_factAt.2.1 56 = .ok (.if_icmp .le 6, 3) := by decide +kernel
theorem d_TrustDeskModel_factAt_62 : decode kY_TrustDeskModel_factAt.2.1 62 = .ok (.iload 4, 2) := by decide +kernel
theorem d_TrustDeskModel_factAt_64 : decode kY_TrustDeskModel_factAt.2.1 64 = .ok (.iconst (-1), 1) := by decide +kernel
theorem d_TrustDeskModel_factAt_65 : decode kY_TrustDeskModel_factAt.2.1 65 = .ok (.if_icmp .eq 28, 3) := by decide +kernel
theorem d_TrustDeskModel_factAt_93 : decode kY_TrustDeskModel_factAt.2.1 93 = .ok (.iload 5, 2) := by decide +kernel
theorem d_TrustDeskModel_factAt_95 : decode kY_TrustDeskModel_factAt.2.1 95 = .ok (.istore 4, 2) := by decide +kernel
theorem d_TrustDeskModel_factAt_68 : decode kY_TrustDeskModel_factAt.2.1 68 = .ok (.aload_n 0, 1) := by decide +kernel
theorem d_TrustDeskModel_factAt_69 : decode kY_TrustDeskModel_factAt.2.1 69 = .ok (.getfield 13, 3) := by decide +kernel
theorem d_TrustDeskModel_factAt_72 : decode kY_TrustDeskModel_factAt.2.1 72 = .ok (.iconst 4, 1) := by decide +kernel
theorem d_TrustDeskModel_factAt_73 : decode kY_TrustDeskModel_factAt.2.1 73 = .ok (.iload 5, 2) := by decide +kernel
theorem d_TrustDeskModel_factAt_75 : decode kY_TrustDeskModel_factAt.2.1 75 = .ok (.imul, 1) := by decide +kernel
theorem d_TrustDeskModel_factAt_76 : decode kY_TrustDeskModel_factAt.2.1 76 = .ok (.iconst 1, 1) := by decide +kernel
theorem d_TrustDeskModel_factAt_77 : decode kY_TrustDeskModel_factAt.2.1 77 = .ok (.iadd, 1) := by decide +kernel
theorem d_TrustDeskModel_factAt_78 : decode kY_TrustDeskModel_factAt.2.1 78 = .ok (.iaload, 1) := by decide +kernel
theorem d_TrustDeskModel_factAt_79 : decode kY_TrustDeskModel_factAt.2.1 79 = .ok (.aload_n 0, 1) := by decide +kernel
theorem d_TrustDeskModel_factAt_80 : decode kY_TrustDeskModel_factAt.2.1 80 = .ok (.getfield 13, 3) := by decide +kernel
theorem d_TrustDeskModel_factAt_83 : decode kY_TrustDeskModel_factAt.2.1 83 = .ok (.iconst 4, 1) := by decide +kernel
theorem d_TrustDeskModel_factAt_84 : decode kY_TrustDeskModel_factAt.2.1 84 = .ok (.iload 4, 2) := by decide +kernel
theorem d_TrustDeskModel_factAt_86 : decode kY_TrustDeskModel_factAt.2.1 86 = .ok (.imul, 1) := by decide +kernel
theorem d_TrustDeskModel_factAt_87 : decode kY_TrustDeskModel_factAt.2.1 87 = .ok (.iconst 1, 1) := by decide +kernel
theorem d_TrustDeskModel_factAt_88 : decode kY_TrustDeskModel_factAt.2.1 88 = .ok (.iadd, 1) := by decide +kernel
theorem d_TrustDeskModel_factAt_89 : decode kY_TrustDeskModel_factAt.2.1 89 = .ok (.iaload, 1) := by decide +kernel
theorem d_TrustDeskModel_factAt_90 : decode kY_TrustDeskModel_factAt.2.1 90 = .ok (.if_icmp .le 7, 3) := by decide +kernel
theorem d_TrustDeskModel_factAt_59 : decode kY_TrustDeskModel_factAt.2.1 59 = .ok (.goto 38, 3) := by decide +kernel
def w_TrustDeskModel_factAt_x : List Nat := []
set_option maxHeartbeats 100000000 in theorem tc_TrustDeskModel_factAt_x {g : mj_G} {l : Launch} {d : Nat} {T0 : tm_H} {M0 : mj_M} {n0 x9 : Nat} {o0 : Nat} {x1 : Int32} {x2 : Int32} {x3 : Int32} (h_o0 : T0 o0 = some (0, 13, 0)) (yR : rI M0 o0) (I0 : tm_I tm_FT (tm_in w_TrustDeskModel_factAt_x) x9 T0 M0 n0 T0 M0 n0) : mj_Met g l kY_TrustDeskModel_factAt d [.ref o0, .int x1, .int x2, .int x3] M0 n0 0 0 (tm_Q tm_FT (tm_in w_TrustDeskModel_factAt_x) x9 T0 M0 n0 (fun r _ M => ∃ v : Int32, r = some (.int v) ∧ rI M o0 ∧ (0 ≤ v.toInt ∧ v.toInt ≤ 36000))) := by
  refine mj_enter (by decide) (Nat.le_of_ble_eq_true rfl) ?_
  refine mv_iconst (v := (-1)) d_TrustDeskModel_factAt_0 (by decide) ?_
  refine mv_istore (lv' := [(4, .int (-1)), (0, .ref o0), (1, .int x1), (2, .int x2), (3, .int x3)]) d_TrustDeskModel_factAt_1 (by decide) rfl ?_
  refine mv_aload_n d_TrustDeskModel_factAt_3 rfl rfl ?_
  obtain ⟨v2, q1⟩ := tm_atI I0 h_o0 (k := 2) rfl
  refine tr_getK q1 d_TrustDeskModel_factAt_4 f_TrustDeskModel_179_13 ?_
  have := yR.f (k := 2) q1 rfl
  refine mv_iconst (v := 1) d_TrustDeskModel_factAt_7 (by decide) ?_
  refine mv_isub d_TrustDeskModel_factAt_8 ?_
  refine mv_istore (lv' := [(5, .int (v2 - 1)), (4, .int (-1)), (0, .ref o0), (1, .int x1), (2, .int x2), (3, .int x3)]) d_TrustDeskModel_factAt_9 (by decide) rfl ?_
  have L11_3 : ∀ (k : Nat) (i5_3 : Int32) (i4_3 : Int32) (T_3 : tm_H) (M_3 : mj_M) (n_3 : Nat), tm_I tm_FT (tm_in w_TrustDeskModel_factAt_x) x9 T0 M0 n0 T_3 M_3 n_3 → T_3 o0 = some (0, 13, 0) → -1 ≤ i5_3.toInt → i5_3.toInt ≤ 299 → -1 ≤ i4_3.toInt → i4_3.toInt ≤ 299 → (rI M_3 o0) → i5_3.toInt + 1 < (k : Int) → mj_V g l kY_TrustDeskModel_factAt d 11 [(5, .int i5_3), (4, .int i4_3), (0, .ref o0), (1, .int x1), (2, .int x2), (3, .int x3)] [] M_3 n_3 0 0 (tm_Q tm_FT (tm_in w_TrustDeskModel_factAt_x) x9 T0 M0 n0 (fun r _ M => ∃ v : Int32, r = some (.int v) ∧ rI M o0 ∧ (0 ≤ v.toInt ∧ v.toInt ≤ 36000))) := by
    intro k3
    induction k3 with
    | zero =>
      intro i5_3 i4_3 T_3 M_3 n_3 I_3 h_q0_3 iv0_3 iv1_3 iv2_3 iv3_3 kKR_3 hk3
      have := kKR_3.1 15 _ _ rfl
      have := kKR_3.1 16 _ _ rfl
      have := kKR_3.1 19 _ _ rfl
      exfalso; omega
    | succ k3 ih3 =>
      intro i5_3 i4_3 T_3 M_3 n_3 I_3 h_q0_3 iv0_3 iv1_3 iv2_3 iv3_3 kKR_3 hk3
      refine mv_iload d_TrustDeskModel_factAt_11 rfl ?_
      have := mz_hi i5_3
      refine mv_if_ltZ (tgt := 103) (a := i5_3.toInt) d_TrustDeskModel_factAt_13 (by decide) rfl (fun b4 => ?_) (fun b4 => ?_)
      · refine mv_iload d_TrustDeskModel_factAt_103 rfl ?_
        refine mv_iconst (v := (-1)) d_TrustDeskModel_factAt_105 (by decide) ?_
        have := mz_hi i4_3
        refine mv_icmp_neZ (tgt := 113) (a := i4_3.toInt) (b := (-1)) d_TrustDeskModel_factAt_106 (by decide) rfl (by decide) (fun b5 => ?_) (fun b5 => ?_)
        · refine mv_aload_n d_TrustDeskModel_factAt_113 rfl rfl ?_
          obtain ⟨a7, q6, t_a7⟩ := tm_atR I_3 h_q0_3 (k := 3) rfl
          refine tr_getK q6 d_TrustDeskModel_factAt_114 f_TrustDeskModel_13_13 ?_
          refine mv_iconst (v := 4) d_TrustDeskModel_factAt_117 (by decide) ?_
          refine mv_iload d_TrustDeskModel_factAt_118 rfl ?_
          refine mv_imul d_TrustDeskModel_factAt_120 ?_
          refine mv_iconst (v := 2) d_TrustDeskModel_factAt_121 (by decide) ?_
          refine mv_iadd d_TrustDeskModel_factAt_122 ?_
          have b8 : (4 * i4_3 : Int32).toInt = (4 * i4_3.toInt) := mz_mul2 (by decide) rfl (by omega) (by omega)
          have b9 : ((4 * i4_3) + 2 : Int32).toInt = ((4 * i4_3.toInt) + 2) := mz_add2 b8 (by decide) (by omega) (by omega)
          refine tr_ialdR (o := o0) (k := 3) I_3 q6 t_a7 (by decide) d_TrustDeskModel_factAt_123 (vp_in_iff.mpr (by omega)) (fun v10 e11 => ?_)
          have := kKR_3.a (k := 3) rfl (((4 * i4_3) + 2) : Int32).toNatClampNeg
          exact mv_iret d_TrustDeskModel_factAt_124 rfl (by first | rfl | decide) ⟨_, I_3, _, rfl, kKR_3, (by omega)⟩
        · refine mv_iconst (v := 0) d_TrustDeskModel_factAt_109 (by decide) ?_
          refine mv_goto (tgt := 124) d_TrustDeskModel_factAt_110 (by decide) ?_
          exact mv_iret d_TrustDeskModel_factAt_124 rfl (by first | rfl | decide) ⟨_, I_3, _, rfl, kKR_3, (by have e9 : (0 : Int32).toInt = 0 := (by decide); omega)⟩
      · refine mv_aload_n d_TrustDeskModel_factAt_16 rfl rfl ?_
        obtain ⟨a13, q12, t_a13⟩ := tm_atR I_3 h_q0_3 (k := 3) rfl
        refine tr_getK q12 d_TrustDeskModel_factAt_17 f_TrustDeskModel_13_13 ?_
        refine mv_iconst (v := 4) d_TrustDeskModel_factAt_20 (by decide) ?_
        refine mv_iload d_TrustDeskModel_factAt_21 rfl ?_
        refine mv_imul d_TrustDeskModel_factAt_23 ?_
        have b14 : (4 * i5_3 : Int32).toInt = (4 * i5_3.toInt) := mz_mul2 (by decide) rfl (by omega) (by omega)
        refine tr_ialdR (o := o0) (k := 3) I_3 q12 t_a13 (by decide) d_TrustDeskModel_factAt_24 (vp_in_iff.mpr (by omega)) (fun v15 e16 => ?_)
        have := kKR_3.a (k := 3) rfl ((4 * i5_3) : Int32).toNatClampNeg
        refine mv_iload_n d_TrustDeskModel_factAt_25 rfl rfl ?_
        have := mz_hi v15
        have := mz_hi x1
        refine mv_icmp_neZ (tgt := 97) (a := v15.toInt) (b := x1.toInt) d_TrustDeskModel_factAt_26 (by decide) rfl rfl (fun b17 => ?_) (fun b17 => ?_)
        · refine mv_iinc (v := (i5_3 + (-1))) (lv' := [(5, .int (i5_3 + (-1))), (4, .int i4_3), (0, .ref o0), (1, .int x1), (2, .int x2), (3, .int x3)]) d_TrustDeskModel_factAt_97 rfl rfl (by decide) rfl ?_
          refine mv_goto (tgt := 11) d_TrustDeskModel_factAt_100 (by decide) ?_
          obtain ⟨w18, h19, b20⟩ : ∃ w9 : Int32, (i5_3 + (-1)) = w9 ∧ w9.toInt = i5_3.toInt + (-1) := ⟨_, rfl, mz_add2 rfl (by decide) (by omega) (by omega)⟩
          rw [h19]
          clear h19
          exact (ih3 w18 i4_3 T_3 M_3 n_3 I_3 h_q0_3 (by first | omega | decide | exact fun h9 => absurd (by decide) h9) (by first | omega | decide | exact fun h9 => absurd (by decide) h9) (by first | omega | decide | exact fun h9 => absurd (by decide) h9) (by first | omega | decide | exact fun h9 => absurd (by decide) h9) kKR_3 (by omega))
        · refine mv_aload_n d_TrustDeskModel_factAt_29 rfl rfl ?_
          refine tr_getK (k := 3) q12 d_TrustDeskModel_factAt_30 f_TrustDeskModel_13_13 ?_
          refine mv_iconst (v := 4) d_TrustDeskModel_factAt_33 (by decide) ?_
          refine mv_iload d_TrustDeskModel_factAt_34 rfl ?_
          refine mv_imul d_TrustDeskModel_factAt_36 ?_
          refine mv_iconst (v := 1) d_TrustDeskModel_factAt_37 (by decide) ?_
          refine mv_iadd d_TrustDeskModel_factAt_38 ?_
          have b21 : (4 * i5_3 : Int32).toInt = (4 * i5_3.toInt) := mz_mul2 (by decide) rfl (by omega) (by omega)
          have b22 : ((4 * i5_3) + 1 : Int32).toInt = ((4 * i5_3.toInt) + 1) := mz_add2 b21 (by decide) (by omega) (by omega)
          refine tr_ialdR (o := o0) (k := 3) I_3 q12 t_a13 (by decide) d_TrustDeskModel_factAt_39 (vp_in_iff.mpr (by omega)) (fun v23 e24 => ?_)
          have := kKR_3.a (k := 3) rfl (((4 * i5_3) + 1) : Int32).toNatClampNeg
          refine mv_iload_n d_TrustDeskModel_factAt_40 rfl rfl ?_
          have := mz_hi v23
          have := mz_hi x2
          refine mv_icmp_gtZ (tgt := 97) (a := v23.toInt) (b := x2.toInt) d_TrustDeskModel_factAt_41 (by decide) rfl rfl (fun b25 => ?_) (fun b25 => ?_)
          · refine mv_iinc (v := (i5_3 + (-1))) (lv' := [(5, .int (i5_3 + (-1))), (4, .int i4_3), (0, .ref o0), (1, .int x1), (2, .int x2), (3, .int x3)]) d_TrustDeskModel_factAt_97 rfl rfl (by decide) rfl ?_
            refine mv_goto (tgt := 11) d_TrustDeskModel_factAt_100 (by decide) ?_
            obtain ⟨w26, h27, b28⟩ : ∃ w9 : Int32, (i5_3 + (-1)) = w9 ∧ w9.toInt = i5_3.toInt + (-1) := ⟨_, rfl, mz_add2 rfl (by decide) (by omega) (by omega)⟩
            rw [h27]
            clear h27
            exact (ih3 w26 i4_3 T_3 M_3 n_3 I_3 h_q0_3 (by first | omega | decide | exact fun h9 => absurd (by decide) h9) (by first | omega | decide | exact fun h9 => absurd (by decide) h9) (by first | omega | decide | exact fun h9 => absurd (by decide) h9) (by first | omega | decide | exact fun h9 => absurd (by decide) h9) kKR_3 (by omega))
          · refine mv_aload_n d_TrustDeskModel_factAt_44 rfl rfl ?_
            refine tr_getK (k := 3) q12 d_TrustDeskModel_factAt_45 f_TrustDeskModel_13_13 ?_
            refine mv_iconst (v := 4) d_TrustDeskModel_factAt_48 (by decide) ?_
            refine mv_iload d_TrustDeskModel_factAt_49 rfl ?_
            refine mv_imul d_TrustDeskModel_factAt_51 ?_
            refine mv_iconst (v := 3) d_TrustDeskModel_factAt_52 (by decide) ?_
            refine mv_iadd d_TrustDeskModel_factAt_53 ?_
            have b29 : (4 * i5_3 : Int32).toInt = (4 * i5_3.toInt) := mz_mul2 (by decide) rfl (by omega) (by omega)
            have b30 : ((4 * i5_3) + 3 : Int32).toInt = ((4 * i5_3.toInt) + 3) := mz_add2 b29 (by decide) (by omega) (by omega)
            refine tr_ialdR (o := o0) (k := 3) I_3 q12 t_a13 (by decide) d_TrustDeskModel_factAt_54 (vp_in_iff.mpr (by omega)) (fun v31 e32 => ?_)
            have := kKR_3.a (k := 3) rfl (((4 * i5_3) + 3) : Int32).toNatClampNeg
            refine mv_iload_n d_TrustDeskModel_factAt_55 rfl rfl ?_
            have := mz_hi v31
            have := mz_hi x3
            refine mv_icmp_leZ (tgt := 62) (a := v31.toInt) (b := x3.toInt) d_TrustDeskModel_factAt_56 (by decide) rfl rfl (fun b33 => ?_) (fun b33 => ?_)
            · refine mv_iload d_TrustDeskModel_factAt_62 rfl ?_
              refine mv_iconst (v := (-1)) d_TrustDeskModel_factAt_64 (by decide) ?_
              have := mz_hi i4_3
              refine mv_icmp_eqZ (tgt := 93) (a := i4_3.toInt) (b := (-1)) d_TrustDeskModel_factAt_65 (by decide) rfl (by decide) (fun b34 => ?_) (fun b34 => ?_)
              · refine mv_iload d_TrustDeskModel_factAt_93 rfl ?_
                refine mv_istore (lv' := [(4, .int i5_3), (5, .int i5_3), (0, .ref o0), (1, .int x1), (2, .int x2), (3, .int x3)]) d_TrustDeskModel_factAt_95 (by decide) rfl ?_
                refine mv_iinc (v := (i5_3 + (-1))) (lv' := [(5, .int (i5_3 + (-1))), (4, .int i5_3), (0, .ref o0), (1, .int x1), (2, .int x2), (3, .int x3)]) d_TrustDeskModel_factAt_97 rfl rfl (by decide) rfl ?_
                refine mv_goto (tgt := 11) d_TrustDeskModel_factAt_100 (by decide) ?_
                obtain ⟨w35, h36, b37⟩ : ∃ w9 : Int32, (i5_3 + (-1)) = w9 ∧ w9.toInt = i5_3.toInt + (-1) := ⟨_, rfl, mz_add2 rfl (by decide) (by omega) (by omega)⟩
                rw [h36]
                clear h36
                exact (ih3 w35 i5_3 T_3 M_3 n_3 I_3 h_q0_3 (by first | omega | decide | exact fun h9 => absurd (by decide) h9) (by first | omega | decide | exact fun h9 => absurd (by decide) h9) (by first | omega | decide | exact fun h9 => absurd (by decide) h9) (by first | omega | decide | exact fun h9 => absurd (by decide) h9) kKR_3 (by omega))
              · refine mv_aload_n d_TrustDeskModel_factAt_68 rfl rfl ?_
                refine tr_getK (k := 3) q12 d_TrustDeskModel_factAt_69 f_TrustDeskModel_13_13 ?_
                refine mv_iconst (v := 4) d_TrustDeskModel_factAt_72 (by decide) ?_
                refine mv_iload d_TrustDeskModel_factAt_73 rfl ?_
                refine mv_imul d_TrustDeskModel_factAt_75 ?_
                refine mv_iconst (v := 1) d_TrustDeskModel_factAt_76 (by decide) ?_
                refine mv_iadd d_TrustDeskModel_factAt_77 ?_
                have b38 : (4 * i5_3 : Int32).toInt = (4 * i5_3.toInt) := mz_mul2 (by decide) rfl (by omega) (by omega)
                have b39 : ((4 * i5_3) + 1 : Int32).toInt = ((4 * i5_3.toInt) + 1) := mz_add2 b38 (by decide) (by omega) (by omega)
                refine tr_ialdR (o := o0) (k := 3) I_3 q12 t_a13 (by decide) d_TrustDeskModel_factAt_78 (vp_in_iff.mpr (by omega)) (fun v40 e41 => ?_)
                have := kKR_3.a (k := 3) rfl (((4 * i5_3) + 1) : Int32).toNatClampNeg
                refine mv_aload_n d_TrustDeskModel_factAt_79 rfl rfl ?_
                refine tr_getK (k := 3) q12 d_TrustDeskModel_factAt_80 f_TrustDeskModel_13_13 ?_
                refine mv_iconst (v := 4) d_TrustDeskModel_factAt_83 (by decide) ?_
                refine mv_iload d_TrustDeskModel_factAt_84 rfl ?_
                refine mv_imul d_TrustDeskModel_factAt_86 ?_
                refine mv_iconst (v := 1) d_TrustDeskModel_factAt_87 (by decide) ?_
                refine mv_iadd d_TrustDeskModel_factAt_88 ?_
                have b42 : (4 * i4_3 : Int32).toInt = (4 * i4_3.toInt) := mz_mul2 (by decide) rfl (by omega) (by omega)
                have b43 : ((4 * i4_3) + 1 : Int32).toInt = ((4 * i4_3.toInt) + 1) := mz_add2 b42 (by decide) (by omega) (by omega)
                refine tr_ialdR (o := o0) (k := 3) I_3 q12 t_a13 (by decide) d_TrustDeskModel_factAt_89 (vp_in_iff.mpr (by omega)) (fun v44 e45 => ?_)
                have := kKR_3.a (k := 3) rfl (((4 * i4_3) + 1) : Int32).toNatClampNeg
                have := mz_hi v40
                have := mz_hi v44
                refine mv_icmp_leZ (tgt := 97) (a := v40.toInt) (b := v44.toInt) d_TrustDeskModel_factAt_90 (by decide) rfl rfl (fun b46 => ?_) (fun b46 => ?_)
                · refine mv_iinc (v := (i5_3 + (-1))) (lv' := [(5, .int (i5_3 + (-1))), (4, .int i4_3), (0, .ref o0), (1, .int x1), (2, .int x2), (3, .int x3)]) d_TrustDeskModel_factAt_97 rfl rfl (by decide) rfl ?_
                  refine mv_goto (tgt := 11) d_TrustDeskModel_factAt_100 (by decide) ?_
                  obtain ⟨w47, h48, b49⟩ : ∃ w9 : Int32, (i5_3 + (-1)) = w9 ∧ w9.toInt = i5_3.toInt + (-1) := ⟨_, rfl, mz_add2 rfl (by decide) (by omega) (by omega)⟩
                  rw [h48]
                  clear h48
                  exact (ih3 w47 i4_3 T_3 M_3 n_3 I_3 h_q0_3 (by first | omega | decide | exact fun h9 => absurd (by decide) h9) (by first | omega | decide | exact fun h9 => absurd (by decide) h9) (by first | omega | decide | exact fun h9 => absurd (by decide) h9) (by first | omega | decide | exact fun h9 => absurd (by decide) h9) kKR_3 (by omega))
                · refine mv_iload d_TrustDeskModel_factAt_93 rfl ?_
                  refine mv_istore (lv' := [(4, .int i5_3), (5, .int i5_3), (0, .ref o0), (1, .int x1), (2, .int x2), (3, .int x3)]) d_TrustDeskModel_factAt_95 (by decide) rfl ?_
                  refine mv_iinc (v := (i5_3 + (-1))) (lv' := [(5, .int (i5_3 + (-1))), (4, .int i5_3), (0, .ref o0), (1, .int x1), (2, .int x2), (3, .int x3)]) d_TrustDeskModel_factAt_97 rfl rfl (by decide) rfl ?_
                  refine mv_goto (tgt := 11) d_TrustDeskModel_factAt_100 (by decide) ?_
                  obtain ⟨w50, h51, b52⟩ : ∃ w9 : Int32, (i5_3 + (-1)) = w9 ∧ w9.toInt = i5_3.toInt + (-1) := ⟨_, rfl, mz_add2 rfl (by decide) (by omega) (by omega)⟩
                  rw [h51]
                  clear h51
                  exact (ih3 w50 i5_3 T_3 M_3 n_3 I_3 h_q0_3 (by first | omega | decide | exact fun h9 => absurd (by decide) h9) (by first | omega | decide | exact fun h9 => absurd (by decide) h9) (by first | omega | decide | exact fun h9 => absurd (by decide) h9) (by first | omega | decide | exact fun h9 => absurd (by decide) h9) kKR_3 (by omega))
            · refine mv_goto (tgt := 97) d_TrustDeskModel_factAt_59 (by decide) ?_
              refine mv_iinc (v := (i5_3 + (-1))) (lv' := [(5, .int (i5_3 + (-1))), (4, .int i4_3), (0, .ref o0), (1, .int x1), (2, .int x2), (3, .int x3)]) d_TrustDeskModel_factAt_97 rfl rfl (by decide) rfl ?_
              refine mv_goto (tgt := 11) d_TrustDeskModel_factAt_100 (by decide) ?_
              obtain ⟨w53, h54, b55⟩ : ∃ w9 : Int32, (i5_3 + (-1)) = w9 ∧ w9.toInt = i5_3.toInt + (-1) := ⟨_, rfl, mz_add2 rfl (by decide) (by omega) (by omega)⟩
              rw [h54]
              clear h54
              exact (ih3 w53 i4_3 T_3 M_3 n_3 I_3 h_q0_3 (by first | omega | decide | exact fun h9 => absurd (by decide) h9) (by first | omega | decide | exact fun h9 => absurd (by decide) h9) (by first | omega | decide | exact fun h9 => absurd (by decide) h9) (by first | omega | decide | exact fun h9 => absurd (by decide) h9) kKR_3 (by omega))
  have : ((-1) : Int32).toInt = (-1) := by decide
  have b56 : (v2 - 1 : Int32).toInt = (v2.toInt - 1) := mz_sub2 rfl (by decide) (by omega) (by omega)
  exact mv_less (Nat.zero_le _) (Nat.zero_le _) (L11_3 4294967296 (v2 - 1) (-1) T0 M0 n0 I0 h_o0 (by first | omega | decide | exact fun h9 => absurd (by decide) h9) (by first | omega | decide | exact fun h9 => absurd (by decide) h9) (by first | omega | decide | exact fun h9 => absurd (by decide) h9) (by first | omega | decide | exact fun h9 => absurd (by decide) h9) yR (by omega))
abbrev kY_TrustDeskModel_actOn : mj_Y := (⟨"TrustDeskModel", "actOn", "(I)I"⟩, prog_14_method_45_code, 4, (Option.some Jvm.ClassFile.FieldType.int))
theorem d_TrustDeskModel_actOn_0 : decode kY_TrustDeskModel_actOn.2.1 0 = .ok (.iconst (-1), 1) := by decide +kernel
theorem d_TrustDeskModel_actOn_1 : decode kY_TrustDeskModel_actOn.2.1 1 = .ok (.istore_n 2, 1) := by decide +kernel
theorem d_TrustDeskModel_actOn_2 : decode kY_TrustDeskModel_actOn.2.1 2 = .ok (.iconst 0, 1) := by decide +kernel
theorem d_TrustDeskModel_actOn_3 : decode kY_TrustDeskModel_actOn.2.1 3 = .ok (.istore_n 3, 1) := by decide +kernel
theorem d_TrustDeskModel_actOn_4 : decode kY_TrustDeskModel_actOn.2.1 4 = .ok (.iload_n 3, 1) := by decide +kernel
theorem d_TrustDeskModel_actOn_5 : decode kY_TrustDeskModel_actOn.2.1 5 = .ok (.aload_n 0, 1) := by decide +kernel
theorem d_TrustDeskModel_actOn_6 : decode kY_TrustDeskModel_actOn.2.1 6 = .ok (.getfield 378, 3) := by decide +kernel
theorem d_TrustDeskModel_actOn_9 : decode kY_TrustDeskModel_actOn.2.1 9 = .ok (.if_icmp .ge 41, 3) := by decide +kernel
theorem d_TrustDeskModel_actOn_50 : decode kY_TrustDeskModel_actOn.2.1 50 = .ok (.iload_n 2, 1) := by decide +kernel
theorem d_TrustDeskModel_actOn_51 : decode kY_TrustDeskModel_actOn.2.1 51 = .ok (.ireturn, 1) := by decide +kernel
theorem d_TrustDeskModel_actOn_12 : decode kY_TrustDeskModel_actOn.2.1 12 = .ok (.aload_n 0, 1) := by decide +kernel
theorem d_TrustDeskModel_actOn_13 : decode kY_TrustDeskModel_actOn.2.1 13 = .ok (.getfield 57, 3) := by decide +kernel
theorem d_TrustDeskModel_actOn_16 : decode kY_TrustDeskModel_actOn.2.1 16 = .ok (.iload_n 3, 1) := by decide +kernel
theorem d_TrustDeskModel_actOn_17 : decode kY_TrustDeskModel_actOn.2.1 17 = .ok (.iaload, 1) := by decide +kernel
theorem d_TrustDeskModel_actOn_18 : decode kY_TrustDeskModel_actOn.2.1 18 = .ok (.iload_n 1, 1) := by decide +kernel
theorem d_TrustDeskModel_actOn_19 : decode kY_TrustDeskModel_actOn.2.1 19 = .ok (.if_icmp .gt 25, 3) := by decide +kernel
theorem d_TrustDeskModel_actOn_44 : decode kY_TrustDeskModel_actOn.2.1 44 = .ok (.iinc 3 1, 3) := by decide +kernel
theorem d_TrustDeskModel_actOn_47 : decode kY_TrustDeskModel_actOn.2.1 47 = .ok (.goto (-43), 3) := by decide +kernel
theorem d_TrustDeskModel_actOn_22 : decode kY_TrustDeskModel_actOn.2.1 22 = .ok (.iload_n 2, 1) := by decide +kernel
theorem d_TrustDeskModel_actOn_23 : decode kY_TrustDeskModel_actOn.2.1 23 = .ok (.iconst (-1), 1) := by decide +kernel
theorem d_TrustDeskModel_actOn_24 : decode kY_TrustDeskModel_actOn.2.1 24 = .ok (.if_icmp .eq 18, 3) := by decide +kernel
theorem d_TrustDeskModel_actOn_42 : decode kY_TrustDeskModel_actOn.2.1 42 = .ok (.iload_n 3, 1) := by decide +kernel
theorem d_TrustDeskModel_actOn_43 : decode kY_TrustDeskModel_actOn.2.1 43 = .ok (.istore_n 2, 1) := by decide +kernel
theorem d_TrustDeskModel_actOn_27 : decode kY_TrustDeskModel_actOn.2.1 27 = .ok (.aload_n 0, 1) := by decide +kernel
theorem d_TrustDeskModel_actOn_28 : decode kY_TrustDeskModel_actOn.2.1 28 = .ok (.getfield 57, 3) := by decide +kernel
theorem d_TrustDeskModel_actOn_31 : decode kY_TrustDeskModel_actOn.2.1 31 = .ok (.iload_n 3, 1) := by decide +kernel
theorem d_TrustDeskModel_actOn_32 : decode kY_TrustDeskModel_actOn.2.1 32 = .ok (.iaload, 1) := by decide +kernel
theorem d_TrustDeskModel_actOn_33 : decode kY_TrustDeskModel_actOn.2.1 33 = .ok (.aload_n 0, 1) := by decide +kernel
theorem d_TrustDeskModel_actOn_34 : decode kY_TrustDeskModel_actOn.2.1 34 = .ok (.getfield 57, 3) := by decide +kernel
theorem d_TrustDeskModel_actOn_37 : decode kY_TrustDeskModel_actOn.2.1 37 = .ok (.iload_n 2, 1) := by decide +kernel
theorem d_TrustDeskModel_actOn_38 : decode kY_TrustDeskModel_actOn.2.1 38 = .ok (.iaload, 1) := by decide +kernel
theorem d_TrustDeskModel_actOn_39 : decode kY_TrustDeskModel_actOn.2.1 39 = .ok (.if_icmp .lt 5, 3) := by decide +kernel
def w_TrustDeskModel_actOn_x : List Nat := []
set_option maxHeartbeats 100000000 in theorem tc_TrustDeskModel_actOn_x {g : mj_G} {l : Launch} {d : Nat} {T0 : tm_H} {M0 : mj_M} {n0 x9 : Nat} {o0 : Nat} {x1 : Int32} (h_o0 : T0 o0 = some (0, 13, 0)) (yR : rI M0 o0) (I0 : tm_I tm_FT (tm_in w_TrustDeskModel_actOn_x) x9 T0 M0 n0 T0 M0 n0) : mj_Met g l kY_TrustDeskModel_actOn d [.ref o0, .int x1] M0 n0 0 0 (tm_Q tm_FT (tm_in w_TrustDeskModel_actOn_x) x9 T0 M0 n0 (fun r _ M => ∃ v : Int32, r = some (.int v) ∧ rI M o0 ∧ (-1 ≤ v.toInt ∧ v.toInt ≤ 19))) := by
  refine mj_enter (by decide) (Nat.le_of_ble_eq_true rfl) ?_
  refine mv_iconst (v := (-1)) d_TrustDeskModel_actOn_0 (by decide) ?_
  refine mv_istore_n (lv' := [(2, .int (-1)), (0, .ref o0), (1, .int x1)]) d_TrustDeskModel_actOn_1 rfl (by decide) rfl ?_
  refine mv_iconst (v := 0) d_TrustDeskModel_actOn_2 (by decide) ?_
  refine mv_istore_n (lv' := [(3, .int 0), (2, .int (-1)), (0, .ref o0), (1, .int x1)]) d_TrustDeskModel_actOn_3 rfl (by decide) rfl ?_
  have L4_1 : ∀ (k : Nat) (i3_1 : Int32) (i2_1 : Int32) (T_1 : tm_H) (M_1 : mj_M) (n_1 : Nat), tm_I tm_FT (tm_in w_TrustDeskModel_actOn_x) x9 T0 M0 n0 T_1 M_1 n_1 → T_1 o0 = some (0, 13, 0) → 0 ≤ i3_1.toInt → -1 ≤ i2_1.toInt → i2_1.toInt ≤ 19 → (rI M_1 o0) → 2147483647 - i3_1.toInt < (k : Int) → mj_V g l kY_TrustDeskModel_actOn d 4 [(3, .int i3_1), (2, .int i2_1), (0, .ref o0), (1, .int x1)] [] M_1 n_1 0 0 (tm_Q tm_FT (tm_in w_TrustDeskModel_actOn_x) x9 T0 M0 n0 (fun r _ M => ∃ v : Int32, r = some (.int v) ∧ rI M o0 ∧ (-1 ≤ v.toInt ∧ v.toInt ≤ 19))) := by
    intro k1
    induction k1 with
    | zero =>
      intro i3_1 i2_1 T_1 M_1 n_1 I_1 h_q0_1 iv0_1 iv1_1 iv2_1 kKR_1 hk1
      have := mz_hi i3_1
      have := kKR_1.1 15 _ _ rfl
      have := kKR_1.1 16 _ _ rfl
      have := kKR_1.1 19 _ _ rfl
      omega
    | succ k1 ih1 =>
      intro i3_1 i2_1 T_1 M_1 n_1 I_1 h_q0_1 iv0_1 iv1_1 iv2_1 kKR_1 hk1
      refine mv_iload_n d_TrustDeskModel_actOn_4 rfl rfl ?_
      refine mv_aload_n d_TrustDeskModel_actOn_5 rfl rfl ?_
      obtain ⟨v3, q2⟩ := tm_atI I_1 h_q0_1 (k := 27) rfl
      refine tr_getK q2 d_TrustDeskModel_actOn_6 f_TrustDeskModel_378_13 ?_
      have := kKR_1.f (k := 27) q2 rfl
      have := mz_hi i3_1
      have := mz_hi v3
      refine mv_icmp_geZ (tgt := 50) (a := i3_1.toInt) (b := v3.toInt) d_TrustDeskModel_actOn_9 (by decide) rfl rfl (fun b4 => ?_) (fun b4 => ?_)
      · refine mv_iload_n d_TrustDeskModel_actOn_50 rfl rfl ?_
        exact mv_iret d_TrustDeskModel_actOn_51 rfl (by first | rfl | decide) ⟨_, I_1, _, rfl, kKR_1, (by omega)⟩
      · refine mv_aload_n d_TrustDeskModel_actOn_12 rfl rfl ?_
        obtain ⟨a6, q5, t_a6⟩ := tm_atR I_1 h_q0_1 (k := 28) rfl
        refine tr_getK q5 d_TrustDeskModel_actOn_13 f_TrustDeskModel_57_13 ?_
        refine mv_iload_n d_TrustDeskModel_actOn_16 rfl rfl ?_
        refine tr_ialdR (o := o0) (k := 28) I_1 q5 t_a6 (by decide) d_TrustDeskModel_actOn_17 (vp_in_iff.mpr (by omega)) (fun v7 e8 => ?_)
        refine mv_iload_n d_TrustDeskModel_actOn_18 rfl rfl ?_
        have := mz_hi v7
        have := mz_hi x1
        refine mv_icmp_gtZ (tgt := 44) (a := v7.toInt) (b := x1.toInt) d_TrustDeskModel_actOn_19 (by decide) rfl rfl (fun b9 => ?_) (fun b9 => ?_)
        · refine mv_iinc (v := (i3_1 + 1)) (lv' := [(3, .int (i3_1 + 1)), (2, .int i2_1), (0, .ref o0), (1, .int x1)]) d_TrustDeskModel_actOn_44 rfl rfl (by decide) rfl ?_
          refine mv_goto (tgt := 4) d_TrustDeskModel_actOn_47 (by decide) ?_
          have b10 : (i3_1 + 1 : Int32).toInt = (i3_1.toInt + 1) := mz_add2 rfl (by decide) (by omega) (by omega)
          have b11 : (i3_1 + 1).toInt = i3_1.toInt + 1 := mz_addn 1 1 (by decide) (by have := mz_lo i3_1; omega) (by have := mz_hi i3_1; omega)
          exact (ih1 (i3_1 + 1) i2_1 T_1 M_1 n_1 I_1 h_q0_1 (by first | omega | decide | exact fun h9 => absurd (by decide) h9) (by first | omega | decide | exact fun h9 => absurd (by decide) h9) (by first | omega | decide | exact fun h9 => absurd (by decide) h9) kKR_1 (by omega))
        · refine mv_iload_n d_TrustDeskModel_actOn_22 rfl rfl ?_
          refine mv_iconst (v := (-1)) d_TrustDeskModel_actOn_23 (by decide) ?_
          have := mz_hi i2_1
          refine mv_icmp_eqZ (tgt := 42) (a := i2_1.toInt) (b := (-1)) d_TrustDeskModel_actOn_24 (by decide) rfl (by decide) (fun b12 => ?_) (fun b12 => ?_)
          · refine mv_iload_n d_TrustDeskModel_actOn_42 rfl rfl ?_
            refine mv_istore_n (lv' := [(2, .int i3_1), (3, .int i3_1), (0, .ref o0), (1, .int x1)]) d_TrustDeskModel_actOn_43 rfl (by decide) rfl ?_
            refine mv_iinc (v := (i3_1 + 1)) (lv' := [(3, .int (i3_1 + 1)), (2, .int i3_1), (0, .ref o0), (1, .int x1)]) d_TrustDeskModel_actOn_44 rfl rfl (by decide) rfl ?_
            refine mv_goto (tgt := 4) d_TrustDeskModel_actOn_47 (by decide) ?_
            have b13 : (i3_1 + 1 : Int32).toInt = (i3_1.toInt + 1) := mz_add2 rfl (by decide) (by omega) (by omega)
            have b14 : (i3_1 + 1).toInt = i3_1.toInt + 1 := mz_addn 1 1 (by decide) (by have := mz_lo i3_1; omega) (by have := mz_hi i3_1; omega)
            exact (ih1 (i3_1 + 1) i3_1 T_1 M_1 n_1 I_1 h_q0_1 (by first | omega | decide | exact fun h9 => absurd (by decide) h9) (by first | omega | decide | exact fun h9 => absurd (by decide) h9) (by first | omega | decide | exact fun h9 => absurd (by decide) h9) kKR_1 (by omega))
          · refine mv_aload_n d_TrustDeskModel_actOn_27 rfl rfl ?_
            refine tr_getK (k := 28) q5 d_TrustDeskModel_actOn_28 f_TrustDeskModel_57_13 ?_
            refine mv_iload_n d_TrustDeskModel_actOn_31 rfl rfl ?_
            refine tr_ialdR (o := o0) (k := 28) I_1 q5 t_a6 (by decide) d_TrustDeskModel_actOn_32 (vp_in_iff.mpr (by omega)) (fun v15 e16 => ?_)
            refine mv_aload_n d_TrustDeskModel_actOn_33 rfl rfl ?_
            refine tr_getK (k := 28) q5 d_TrustDeskModel_actOn_34 f_TrustDeskModel_57_13 ?_
            refine mv_iload_n d_TrustDeskModel_actOn_37 rfl rfl ?_
            refine tr_ialdR (o := o0) (k := 28) I_1 q5 t_a6 (by decide) d_TrustDeskModel_actOn_38 (vp_in_iff.mpr (by omega)) (fun v17 e18 => ?_)
            have := mz_hi v15
            have := mz_hi v17
            refine mv_icmp_ltZ (tgt := 44) (a := v15.toInt) (b := v17.toInt) d_TrustDeskModel_actOn_39 (by decide) rfl rfl (fun b19 => ?_) (fun b19 => ?_)
            · refine mv_iinc (v := (i3_1 + 1)) (lv' := [(3, .int (i3_1 + 1)), (2, .int i2_1), (0, .ref o0), (1, .int x1)]) d_TrustDeskModel_actOn_44 rfl rfl (by decide) rfl ?_
              refine mv_goto (tgt := 4) d_TrustDeskModel_actOn_47 (by decide) ?_
              have b20 : (i3_1 + 1 : Int32).toInt = (i3_1.toInt + 1) := mz_add2 rfl (by decide) (by omega) (by omega)
              have b21 : (i3_1 + 1).toInt = i3_1.toInt + 1 := mz_addn 1 1 (by decide) (by have := mz_lo i3_1; omega) (by have := mz_hi i3_1; omega)
              exact (ih1 (i3_1 + 1) i2_1 T_1 M_1 n_1 I_1 h_q0_1 (by first | omega | decide | exact fun h9 => absurd (by decide) h9) (by first | omega | decide | exact fun h9 => absurd (by decide) h9) (by first | omega | decide | exact fun h9 => absurd (by decide) h9) kKR_1 (by omega))
            · refine mv_iload_n d_TrustDeskModel_actOn_42 rfl rfl ?_
              refine mv_istore_n (lv' := [(2, .int i3_1), (3, .int i3_1), (0, .ref o0), (1, .int x1)]) d_TrustDeskModel_actOn_43 rfl (by decide) rfl ?_
              refine mv_iinc (v := (i3_1 + 1)) (lv' := [(3, .int (i3_1 + 1)), (2, .int i3_1), (0, .ref o0), (1, .int x1)]) d_TrustDeskModel_actOn_44 rfl rfl (by decide) rfl ?_
              refine mv_goto (tgt := 4) d_TrustDeskModel_actOn_47 (by decide) ?_
              have b22 : (i3_1 + 1 : Int32).toInt = (i3_1.toInt + 1) := mz_add2 rfl (by decide) (by omega) (by omega)
              have b23 : (i3_1 + 1).toInt = i3_1.toInt + 1 := mz_addn 1 1 (by decide) (by have := mz_lo i3_1; omega) (by have := mz_hi i3_1; omega)
              exact (ih1 (i3_1 + 1) i3_1 T_1 M_1 n_1 I_1 h_q0_1 (by first | omega | decide | exact fun h9 => absurd (by decide) h9) (by first | omega | decide | exact fun h9 => absurd (by decide) h9) (by first | omega | decide | exact fun h9 => absurd (by decide) h9) kKR_1 (by omega))
  have : ((-1) : Int32).toInt = (-1) := by decide
  have : (0 : Int32).toInt = 0 := by decide
  exact mv_less (Nat.zero_le _) (Nat.zero_le _) (L4_1 4294967296 0 (-1) T0 M0 n0 I0 h_o0 (by first | omega | decide | exact fun h9 => absurd (by decide) h9) (by first | omega | decide | exact fun h9 => absurd (by decide) h9) (by first | omega | decide | exact fun h9 => absurd (by decide) h9) yR (by show (2147483647 - (0 : Int) : Int) < _; decide))
abbrev kY_TrustDeskModel_toldOn : mj_Y := (⟨"TrustDeskModel", "toldOn", "(II)I"⟩, prog_14_method_46_code, 6, (Option.some Jvm.ClassFile.FieldType.int))
theorem d_TrustDeskModel_toldOn_0 : decode kY_TrustDeskModel_toldOn.2.1 0 = .ok (.iload_n 2, 1) := by decide +kernel
theorem d_TrustDeskModel_toldOn_1 : decode kY_TrustDeskModel_toldOn.2.1 1 = .ok (.ifCond .ne 7, 3) := by decide +kernel
theorem d_TrustDeskModel_toldOn_8 : decode kY_TrustDeskModel_toldOn.2.1 8 = .ok (.iload_n 2, 1) := by decide +kernel
theorem d_TrustDeskModel_toldOn_9 : decode kY_TrustDeskModel_toldOn.2.1 9 = .ok (.iconst 1, 1) := by decide +kernel
theorem d_TrustDeskModel_toldOn_10 : decode kY_TrustDeskModel_toldOn.2.1 10 = .ok (.if_icmp .ne 7, 3) := by decide +kernel
theorem d_TrustDeskModel_toldOn_17 : decode kY_TrustDeskModel_toldOn.2.1 17 = .ok (.iload_n 2, 1) := by decide +kernel
theorem d_TrustDeskModel_toldOn_18 : decode kY_TrustDeskModel_toldOn.2.1 18 = .ok (.iconst 2, 1) := by decide +kernel
theorem d_TrustDeskModel_toldOn_19 : decode kY_TrustDeskModel_toldOn.2.1 19 = .ok (.if_icmp .ne 8, 3) := by decide +kernel
theorem d_TrustDeskModel_toldOn_27 : decode kY_TrustDeskModel_toldOn.2.1 27 = .ok (.iload_n 2, 1) := by decide +kernel
theorem d_TrustDeskModel_toldOn_28 : decode kY_TrustDeskModel_toldOn.2.1 28 = .ok (.iconst 3, 1) := by decide +kernel
theorem d_TrustDeskModel_toldOn_29 : decode kY_TrustDeskModel_toldOn.2.1 29 = .ok (.if_icmp .ne 8, 3) := by decide +kernel
theorem d_TrustDeskModel_toldOn_37 : decode kY_TrustDeskModel_toldOn.2.1 37 = .ok (.iload_n 2, 1) := by decide +kernel
theorem d_TrustDeskModel_toldOn_38 : decode kY_TrustDeskModel_toldOn.2.1 38 = .ok (.iconst 4, 1) := by decide +kernel
theorem d_TrustDeskModel_toldOn_39 : decode kY_TrustDeskModel_toldOn.2.1 39 = .ok (.if_icmp .ne 7, 3) := by decide +kernel
theorem d_TrustDeskModel_toldOn_46 : decode kY_TrustDeskModel_toldOn.2.1 46 = .ok (.bipush 20, 2) := by decide +kernel
theorem d_TrustDeskModel_toldOn_48 : decode kY_TrustDeskModel_toldOn.2.1 48 = .ok (.istore_n 3, 1) := by decide +kernel
theorem d_TrustDeskModel_toldOn_49 : decode kY_TrustDeskModel_toldOn.2.1 49 = .ok (.aload_n 0, 1) := by decide +kernel
theorem d_TrustDeskModel_toldOn_50 : decode kY_TrustDeskModel_toldOn.2.1 50 = .ok (.iload_n 1, 1) := by decide +kernel
theorem d_TrustDeskModel_toldOn_51 : decode kY_TrustDeskModel_toldOn.2.1 51 = .ok (.invokevirtual 391, 3) := by decide +kernel
theorem lV_TrustDeskModel_391 : mj_lV "TrustDeskModel" 391 kY_TrustDeskModel_actOn 1 := ⟨⟨(mj_in1 (List.mem_of_getElem? (i := 1785) (by decide +kernel)) rfl), (mj_in1 (List.mem_of_getElem? (i := 10) (by decide +kernel)) rfl), (mj_in1 (List.mem_of_getElem? (i := 1788) (by decide +kernel)) rfl), by decide, rfl, by decide⟩, (mj_in1 (List.mem_of_getElem? (i := 1787) (by decide +kernel)) rfl), (mj_in (List.mem_append_left _ (List.mem_of_getElem? (i := 105) (by decide +kernel))) rfl)⟩
theorem d_TrustDeskModel_toldOn_54 : decode kY_TrustDeskModel_toldOn.2.1 54 = .ok (.istore 4, 2) := by decide +kernel
theorem d_TrustDeskModel_toldOn_56 : decode kY_TrustDeskModel_toldOn.2.1 56 = .ok (.iconst 0, 1) := by decide +kernel
theorem d_TrustDeskModel_toldOn_57 : decode kY_TrustDeskModel_toldOn.2.1 57 = .ok (.istore 5, 2) := by decide +kernel
theorem d_TrustDeskModel_toldOn_59 : decode kY_TrustDeskModel_toldOn.2.1 59 = .ok (.iload 4, 2) := by decide +kernel
theorem d_TrustDeskModel_toldOn_61 : decode kY_TrustDeskModel_toldOn.2.1 61 = .ok (.iconst (-1), 1) := by decide +kernel
theorem d_TrustDeskModel_toldOn_62 : decode kY_TrustDeskModel_toldOn.2.1 62 = .ok (.if_icmp .eq 52, 3) := by decide +kernel
theorem d_TrustDeskModel_toldOn_114 : decode kY_TrustDeskModel_toldOn.2.1 114 = .ok (.iload_n 3, 1) := by decide +kernel
theorem d_TrustDeskModel_toldOn_115 : decode kY_TrustDeskModel_toldOn.2.1 115 = .ok (.ireturn, 1) := by decide +kernel
theorem d_TrustDeskModel_toldOn_65 : decode kY_TrustDeskModel_toldOn.2.1 65 = .ok (.iload 5, 2) := by decide +kernel
theorem d_TrustDeskModel_toldOn_67 : decode kY_TrustDeskModel_toldOn.2.1 67 = .ok (.aload_n 0, 1) := by decide +kernel
theorem d_TrustDeskModel_toldOn_68 : decode kY_TrustDeskModel_toldOn.2.1 68 = .ok (.getfield 23, 3) := by decide +kernel
theorem d_TrustDeskModel_toldOn_71 : decode kY_TrustDeskModel_toldOn.2.1 71 = .ok (.iload 4, 2) := by decide +kernel
theorem d_TrustDeskModel_toldOn_73 : decode kY_TrustDeskModel_toldOn.2.1 73 = .ok (.iaload, 1) := by decide +kernel
theorem d_TrustDeskModel_toldOn_74 : decode kY_TrustDeskModel_toldOn.2.1 74 = .ok (.if_icmp .ge 40, 3) := by decide +kernel
theorem d_TrustDeskModel_toldOn_77 : decode kY_TrustDeskModel_toldOn.2.1 77 = .ok (.aload_n 0, 1) := by decide +kernel
theorem d_TrustDeskModel_toldOn_78 : decode kY_TrustDeskModel_toldOn.2.1 78 = .ok (.getfield 26, 3) := by decide +kernel
theorem d_TrustDeskModel_toldOn_81 : decode kY_TrustDeskModel_toldOn.2.1 81 = .ok (.bipush 20, 2) := by decide +kernel
theorem d_TrustDeskModel_toldOn_83 : decode kY_TrustDeskModel_toldOn.2.1 83 = .ok (.iload 4, 2) := by decide +kernel
theorem d_TrustDeskModel_toldOn_85 : decode kY_TrustDeskModel_toldOn.2.1 85 = .ok (.imul, 1) := by decide +kernel
theorem d_TrustDeskModel_toldOn_86 : decode kY_TrustDeskModel_toldOn.2.1 86 = .ok (.iload 5, 2) := by decide +kernel
theorem d_TrustDeskModel_toldOn_88 : decode kY_TrustDeskModel_toldOn.2.1 88 = .ok (.iadd, 1) := by decide +kernel
theorem d_TrustDeskModel_toldOn_89 : decode kY_TrustDeskModel_toldOn.2.1 89 = .ok (.iaload, 1) := by decide +kernel
theorem d_TrustDeskModel_toldOn_90 : decode kY_TrustDeskModel_toldOn.2.1 90 = .ok (.iload_n 2, 1) := by decide +kernel
theorem d_TrustDeskModel_toldOn_91 : decode kY_TrustDeskModel_toldOn.2.1 91 = .ok (.if_icmp .ne 17, 3) := by decide +kernel
theorem d_TrustDeskModel_toldOn_108 : decode kY_TrustDeskModel_toldOn.2.1 108 = .ok (.iinc 5 1, 3) := by decide +kernel
theorem d_TrustDeskModel_toldOn_111 : decode kY_TrustDeskModel_toldOn.2.1 111 = .ok (.goto (-52), 3) := by decide +kernel
theorem d_TrustDeskModel_toldOn_94 : decode kY_TrustDeskModel_toldOn.2.1 94 = .ok (.aload_n 0, 1) := by decide +kernel
theorem d_TrustDeskModel_toldOn_95 : decode kY_TrustDeskModel_toldOn.2.1 95 = .ok (.getfield 29, 3) := by decide +kernel
theorem d_TrustDeskModel_toldOn_98 : decode kY_TrustDeskModel_toldOn.2.1 98 = .ok (.bipush 20, 2) := by decide +kernel
theorem d_TrustDeskModel_toldOn_100 : decode kY_TrustDeskModel_toldOn.2.1 100 = .ok (.iload 4, 2) := by decide +kernel
theorem d_TrustDeskModel_toldOn_102 : decode kY_TrustDeskModel_toldOn.2.1 102 = .ok (.imul, 1) := by decide +kernel
theorem d_TrustDeskModel_toldOn_103 : decode kY_TrustDeskModel_toldOn.2.1 103 = .ok (.iload 5, 2) := by decide +kernel
theorem d_TrustDeskModel_toldOn_105 : decode kY_TrustDeskModel_toldOn.2.1 105 = .ok (.iadd, 1) := by decide +kernel
theorem d_TrustDeskModel_toldOn_106 : decode kY_TrustDeskModel_toldOn.2.1 106 = .ok (.iaload, 1) := by decide +kernel
theorem d_TrustDeskModel_toldOn_107 : decode kY_TrustDeskModel_toldOn.2.1 107 = .ok (.istore_n 3, 1) := by decide +kernel
theorem d_TrustDeskModel_toldOn_42 : decode kY_TrustDeskModel_toldOn.2.1 42 = .ok (.iconst 0, 1) := by decide +kernel
theorem d_TrustDeskModel_toldOn_43 : decode kY_TrustDeskModel_toldOn.2.1 43 = .ok (.goto 5, 3) := by decide +kernel
theorem d_TrustDeskModel_toldOn_32 : decode kY_TrustDeskModel_toldOn.2.1 32 = .ok (.bipush 90, 2) := by decide +kernel
theorem d_TrustDeskModel_toldOn_34 : decode kY_TrustDeskModel_toldOn.2.1 34 = .ok (.goto 14, 3) := by decide +kernel
theorem d_TrustDeskModel_toldOn_22 : decode kY_TrustDeskModel_toldOn.2.1 22 = .ok (.bipush 30, 2) := by decide +kernel
theorem d_TrustDeskModel_toldOn_24 : decode kY_TrustDeskModel_toldOn.2.1 24 = .ok (.goto 24, 3) := by decide +kernel
theorem d_TrustDeskModel_toldOn_13 : decode kY_TrustDeskModel_toldOn.2.1 13 = .ok (.iconst 1, 1) := by decide +kernel
theorem d_TrustDeskModel_toldOn_14 : decode kY_TrustDeskModel_toldOn.2.1 14 = .ok (.goto 34, 3) := by decide +kernel
theorem d_TrustDeskModel_toldOn_4 : decode kY_TrustDeskModel_toldOn.2.1 4 = .ok (.iconst 3, 1) := by decide +kernel
theorem d_TrustDeskModel_toldOn_5 : decode kY_TrustDeskModel_toldOn.2.1 5 = .ok (.goto 43, 3) := by decide +kernel
def w_TrustDeskModel_toldOn_x : List Nat := []
set_option maxHeartbeats 100000000 in theorem tc_TrustDeskModel_toldOn_x {g : mj_G} {l : Launch} {d : Nat} {T0 : tm_H} {M0 : mj_M} {n0 x9 : Nat} {o0 : Nat} {x1 : Int32} {x2 : Int32} (h_o0 : T0 o0 = some (0, 13, 0)) (yR : rI M0 o0) (y8 : ∀ i : Nat, i < 880 → 0 ≤ ra M0 o0 8 i) (I0 : tm_I tm_FT (tm_in w_TrustDeskModel_toldOn_x) x9 T0 M0 n0 T0 M0 n0) : mj_Met g l kY_TrustDeskModel_toldOn (d + 1) [.ref o0, .int x1, .int x2] M0 n0 0 0 (tm_Q tm_FT (tm_in w_TrustDeskModel_toldOn_x) x9 T0 M0 n0 (fun r _ M => ∃ v : Int32, r = some (.int v) ∧ rI M o0 ∧ (0 ≤ v.toInt ∧ v.toInt ≤ 720))) := by
  refine mj_enter (by decide) (Nat.le_of_ble_eq_true rfl) ?_
  have K1 : ∀ i : Nat, i < 880 → 0 ≤ ra M0 o0 8 i := y8
  refine mv_iload_n d_TrustDeskModel_toldOn_0 rfl rfl ?_
  have := mz_hi x2
  refine mv_if_neZ (tgt := 8) (a := x2.toInt) d_TrustDeskModel_toldOn_1 (by decide) rfl (fun b2 => ?_) (fun b2 => ?_)
  · refine mv_iload_n d_TrustDeskModel_toldOn_8 rfl rfl ?_
    refine mv_iconst (v := 1) d_TrustDeskModel_toldOn_9 (by decide) ?_
    have := mz_hi x2
    refine mv_icmp_neZ (tgt := 17) (a := x2.toInt) (b := 1) d_TrustDeskModel_toldOn_10 (by decide) rfl (by decide) (fun b3 => ?_) (fun b3 => ?_)
    · refine mv_iload_n d_TrustDeskModel_toldOn_17 rfl rfl ?_
      refine mv_iconst (v := 2) d_TrustDeskModel_toldOn_18 (by decide) ?_
      have := mz_hi x2
      refine mv_icmp_neZ (tgt := 27) (a := x2.toInt) (b := 2) d_TrustDeskModel_toldOn_19 (by decide) rfl (by decide) (fun b4 => ?_) (fun b4 => ?_)
      · refine mv_iload_n d_TrustDeskModel_toldOn_27 rfl rfl ?_
        refine mv_iconst (v := 3) d_TrustDeskModel_toldOn_28 (by decide) ?_
        have := mz_hi x2
        refine mv_icmp_neZ (tgt := 37) (a := x2.toInt) (b := 3) d_TrustDeskModel_toldOn_29 (by decide) rfl (by decide) (fun b5 => ?_) (fun b5 => ?_)
        · refine mv_iload_n d_TrustDeskModel_toldOn_37 rfl rfl ?_
          refine mv_iconst (v := 4) d_TrustDeskModel_toldOn_38 (by decide) ?_
          have := mz_hi x2
          refine mv_icmp_neZ (tgt := 46) (a := x2.toInt) (b := 4) d_TrustDeskModel_toldOn_39 (by decide) rfl (by decide) (fun b6 => ?_) (fun b6 => ?_)
          · refine mv_bipush (v := 20) d_TrustDeskModel_toldOn_46 (by decide) ?_
            refine mv_istore_n (lv' := [(3, .int 20), (0, .ref o0), (1, .int x1), (2, .int x2)]) d_TrustDeskModel_toldOn_48 rfl (by decide) rfl ?_
            refine mv_aload_n d_TrustDeskModel_toldOn_49 rfl rfl ?_
            refine mv_iload_n d_TrustDeskModel_toldOn_50 rfl rfl ?_
            obtain ⟨_, b13, -⟩ := I0.1 _ _ h_o0
            refine mv_callV (kc' := 0) (ks' := 0) (As := [.int x1]) (st9 := [.int x1, .ref o0]) d_TrustDeskModel_toldOn_51 lV_TrustDeskModel_391 b13 rfl (tc_TrustDeskModel_actOn_x (d := d) (x9 := x9) (o0 := o0) (x1 := x1) h_o0 yR I0.start) rfl (Nat.le_of_ble_eq_true rfl) (Nat.le_of_ble_eq_true rfl) (Nat.le_of_ble_eq_true rfl) (hst := rfl) (fun b7r M8 n9 b7 => ?_)
            obtain ⟨T10, J11, v14, rfl, R15, f16⟩ := b7
            have I12 := I0.call J11 (tm_sub (by decide)) (Or.inl rfl)
            have t17 := J11.up h_o0
            have z18 := (rv_c I0 J11 (I0.up h_o0) (k := 27) rfl)
            have K19 : ∀ i : Nat, i < 880 → 0 ≤ ra M8 o0 8 i := (by have e9 := ((sA_c I0 J11 (I0.up h_o0) (by decide +kernel)) : sA [8] _ _ _) 8 rfl; rw [e9]; exact K1)
            refine mv_istore (lv' := [(4, .int v14), (3, .int 20), (0, .ref o0), (1, .int x1), (2, .int x2)]) d_TrustDeskModel_toldOn_54 (by decide) rfl ?_
            refine mv_iconst (v := 0) d_TrustDeskModel_toldOn_56 (by decide) ?_
            refine mv_istore (lv' := [(5, .int 0), (4, .int v14), (3, .int 20), (0, .ref o0), (1, .int x1), (2, .int x2)]) d_TrustDeskModel_toldOn_57 (by decide) rfl ?_
            have L59_20 : ∀ (k : Nat) (i5_20 : Int32) (i3_20 : Int32) (T_20 : tm_H) (M_20 : mj_M) (n_20 : Nat), tm_I tm_FT (tm_in w_TrustDeskModel_toldOn_x) x9 T0 M0 n0 T_20 M_20 n_20 → T_20 o0 = some (0, 13, 0) → 0 ≤ i5_20.toInt → 0 ≤ i3_20.toInt → i3_20.toInt ≤ 720 → (rI M_20 o0) → (∀ i : Nat, i < 880 → 0 ≤ ra M_20 o0 8 i) → 2147483647 - i5_20.toInt < (k : Int) → mj_V g l kY_TrustDeskModel_toldOn (d + 1) 59 [(5, .int i5_20), (4, .int v14), (3, .int i3_20), (0, .ref o0), (1, .int x1), (2, .int x2)] [] M_20 n_20 0 0 (tm_Q tm_FT (tm_in w_TrustDeskModel_toldOn_x) x9 T0 M0 n0 (fun r _ M => ∃ v : Int32, r = some (.int v) ∧ rI M o0 ∧ (0 ≤ v.toInt ∧ v.toInt ≤ 720))) := by
              intro k20
              induction k20 with
              | zero =>
                intro i5_20 i3_20 T_20 M_20 n_20 I_20 h_q0_20 iv0_20 iv1_20 iv2_20 kKR_20 kK8_20 hk20
                have := mz_hi i5_20
                have := kKR_20.1 15 _ _ rfl
                have := kKR_20.1 16 _ _ rfl
                have := kKR_20.1 19 _ _ rfl
                omega
              | succ k20 ih20 =>
                intro i5_20 i3_20 T_20 M_20 n_20 I_20 h_q0_20 iv0_20 iv1_20 iv2_20 kKR_20 kK8_20 hk20
                refine mv_iload d_TrustDeskModel_toldOn_59 rfl ?_
                refine mv_iconst (v := (-1)) d_TrustDeskModel_toldOn_61 (by decide) ?_
                have := mz_hi v14
                refine mv_icmp_eqZ (tgt := 114) (a := v14.toInt) (b := (-1)) d_TrustDeskModel_toldOn_62 (by decide) rfl (by decide) (fun b21 => ?_) (fun b21 => ?_)
                · refine mv_iload_n d_TrustDeskModel_toldOn_114 rfl rfl ?_
                  exact mv_iret d_TrustDeskModel_toldOn_115 rfl (by first | rfl | decide) ⟨_, I_20, _, rfl, kKR_20, (by have := kKR_20.1 27 _ _ rfl; omega)⟩
                · refine mv_iload d_TrustDeskModel_toldOn_65 rfl ?_
                  refine mv_aload_n d_TrustDeskModel_toldOn_67 rfl rfl ?_
                  obtain ⟨a23, q22, t_a23⟩ := tm_atR I_20 h_q0_20 (k := 6) rfl
                  refine tr_getK q22 d_TrustDeskModel_toldOn_68 f_TrustDeskModel_23_13 ?_
                  refine mv_iload d_TrustDeskModel_toldOn_71 rfl ?_
                  refine tr_ialdR (o := o0) (k := 6) I_20 q22 t_a23 (by decide) d_TrustDeskModel_toldOn_73 (vp_in_iff.mpr (by have := kKR_20.1 27 _ _ rfl; omega)) (fun v24 e25 => ?_)
                  have := kKR_20.a (k := 6) rfl (v14 : Int32).toNatClampNeg
                  have := mz_hi i5_20
                  have := mz_hi v24
                  refine mv_icmp_geZ (tgt := 114) (a := i5_20.toInt) (b := v24.toInt) d_TrustDeskModel_toldOn_74 (by decide) rfl rfl (fun b26 => ?_) (fun b26 => ?_)
                  · refine mv_iload_n d_TrustDeskModel_toldOn_114 rfl rfl ?_
                    exact mv_iret d_TrustDeskModel_toldOn_115 rfl (by first | rfl | decide) ⟨_, I_20, _, rfl, kKR_20, (by have := kKR_20.1 27 _ _ rfl; omega)⟩
                  · refine mv_aload_n d_TrustDeskModel_toldOn_77 rfl rfl ?_
                    obtain ⟨a28, q27, t_a28⟩ := tm_atR I_20 h_q0_20 (k := 7) rfl
                    refine tr_getK q27 d_TrustDeskModel_toldOn_78 f_TrustDeskModel_26_13 ?_
                    refine mv_bipush (v := 20) d_TrustDeskModel_toldOn_81 (by decide) ?_
                    refine mv_iload d_TrustDeskModel_toldOn_83 rfl ?_
                    refine mv_imul d_TrustDeskModel_toldOn_85 ?_
                    refine mv_iload d_TrustDeskModel_toldOn_86 rfl ?_
                    refine mv_iadd d_TrustDeskModel_toldOn_88 ?_
                    have b29 : (20 * v14 : Int32).toInt = (20 * v14.toInt) := mz_mul2 (by decide) rfl (by have := kKR_20.1 27 _ _ rfl; omega) (by have := kKR_20.1 27 _ _ rfl; omega)
                    have b30 : ((20 * v14) + i5_20 : Int32).toInt = ((20 * v14.toInt) + i5_20.toInt) := mz_add2 b29 rfl (by have := kKR_20.1 27 _ _ rfl; omega) (by have := kKR_20.1 27 _ _ rfl; omega)
                    refine tr_ialdR (o := o0) (k := 7) I_20 q27 t_a28 (by decide) d_TrustDeskModel_toldOn_89 (vp_in_iff.mpr (by have := kKR_20.1 27 _ _ rfl; omega)) (fun v31 e32 => ?_)
                    refine mv_iload_n d_TrustDeskModel_toldOn_90 rfl rfl ?_
                    have := mz_hi v31
                    have := mz_hi x2
                    refine mv_icmp_neZ (tgt := 108) (a := v31.toInt) (b := x2.toInt) d_TrustDeskModel_toldOn_91 (by decide) rfl rfl (fun b33 => ?_) (fun b33 => ?_)
                    · refine mv_iinc (v := (i5_20 + 1)) (lv' := [(5, .int (i5_20 + 1)), (4, .int v14), (3, .int i3_20), (0, .ref o0), (1, .int x1), (2, .int x2)]) d_TrustDeskModel_toldOn_108 rfl rfl (by decide) rfl ?_
                      refine mv_goto (tgt := 59) d_TrustDeskModel_toldOn_111 (by decide) ?_
                      have b34 : (i5_20 + 1 : Int32).toInt = (i5_20.toInt + 1) := mz_add2 rfl (by decide) (by have := kKR_20.1 27 _ _ rfl; omega) (by have := kKR_20.1 27 _ _ rfl; omega)
                      have b35 : (i5_20 + 1).toInt = i5_20.toInt + 1 := mz_addn 1 1 (by decide) (by have := mz_lo i5_20; omega) (by have := mz_hi i5_20; omega)
                      exact (ih20 (i5_20 + 1) i3_20 T_20 M_20 n_20 I_20 h_q0_20 (by have := kKR_20.1 27 _ _ rfl; first | omega | decide | exact fun h9 => absurd (by decide) h9) (by have := kKR_20.1 27 _ _ rfl; first | omega | decide | exact fun h9 => absurd (by decide) h9) (by have := kKR_20.1 27 _ _ rfl; first | omega | decide | exact fun h9 => absurd (by decide) h9) kKR_20 kK8_20 (by have := kKR_20.1 27 _ _ rfl; omega))
                    · refine mv_aload_n d_TrustDeskModel_toldOn_94 rfl rfl ?_
                      obtain ⟨a37, q36, t_a37⟩ := tm_atR I_20 h_q0_20 (k := 8) rfl
                      refine tr_getK q36 d_TrustDeskModel_toldOn_95 f_TrustDeskModel_29_13 ?_
                      refine mv_bipush (v := 20) d_TrustDeskModel_toldOn_98 (by decide) ?_
                      refine mv_iload d_TrustDeskModel_toldOn_100 rfl ?_
                      refine mv_imul d_TrustDeskModel_toldOn_102 ?_
                      refine mv_iload d_TrustDeskModel_toldOn_103 rfl ?_
                      refine mv_iadd d_TrustDeskModel_toldOn_105 ?_
                      have b38 : (20 * v14 : Int32).toInt = (20 * v14.toInt) := mz_mul2 (by decide) rfl (by have := kKR_20.1 27 _ _ rfl; omega) (by have := kKR_20.1 27 _ _ rfl; omega)
                      have b39 : ((20 * v14) + i5_20 : Int32).toInt = ((20 * v14.toInt) + i5_20.toInt) := mz_add2 b38 rfl (by have := kKR_20.1 27 _ _ rfl; omega) (by have := kKR_20.1 27 _ _ rfl; omega)
                      refine tr_ialdR (o := o0) (k := 8) I_20 q36 t_a37 (by decide) d_TrustDeskModel_toldOn_106 (vp_in_iff.mpr (by have := kKR_20.1 27 _ _ rfl; omega)) (fun v40 e41 => ?_)
                      have := kKR_20.a (k := 8) rfl (((20 * v14) + i5_20) : Int32).toNatClampNeg
                      have := kK8_20 ((20 * v14) + i5_20).toNatClampNeg (by have := mz_nat9 (i := ((20 * v14) + i5_20)) (by have := kKR_20.1 27 _ _ rfl; omega); have := kKR_20.1 27 _ _ rfl; omega)
                      refine mv_istore_n (lv' := [(3, .int v40), (5, .int i5_20), (4, .int v14), (0, .ref o0), (1, .int x1), (2, .int x2)]) d_TrustDeskModel_toldOn_107 rfl (by decide) rfl ?_
                      refine mv_iinc (v := (i5_20 + 1)) (lv' := [(5, .int (i5_20 + 1)), (3, .int v40), (4, .int v14), (0, .ref o0), (1, .int x1), (2, .int x2)]) d_TrustDeskModel_toldOn_108 rfl rfl (by decide) rfl ?_
                      refine mv_goto (tgt := 59) d_TrustDeskModel_toldOn_111 (by decide) ?_
                      have b42 : (i5_20 + 1 : Int32).toInt = (i5_20.toInt + 1) := mz_add2 rfl (by decide) (by have := kKR_20.1 27 _ _ rfl; omega) (by have := kKR_20.1 27 _ _ rfl; omega)
                      refine mv_locals (lv' := [(5, .int (i5_20 + 1)), (4, .int v14), (3, .int v40), (0, .ref o0), (1, .int x1), (2, .int x2)]) (by intro q hq; simp only [List.mem_cons, List.not_mem_nil, or_false] at hq; rcases hq with rfl | rfl | rfl | rfl | rfl | rfl <;> rfl) ?_
                      have b43 : (i5_20 + 1).toInt = i5_20.toInt + 1 := mz_addn 1 1 (by decide) (by have := mz_lo i5_20; omega) (by have := mz_hi i5_20; omega)
                      exact (ih20 (i5_20 + 1) v40 T_20 M_20 n_20 I_20 h_q0_20 (by have := kKR_20.1 27 _ _ rfl; first | omega | decide | exact fun h9 => absurd (by decide) h9) (by have := kKR_20.1 27 _ _ rfl; first | omega | decide | exact fun h9 => absurd (by decide) h9) (by have := kKR_20.1 27 _ _ rfl; first | omega | decide | exact fun h9 => absurd (by decide) h9) kKR_20 kK8_20 (by have := kKR_20.1 27 _ _ rfl; omega))
            have : (0 : Int32).toInt = 0 := by decide
            have : (20 : Int32).toInt = 20 := by decide
            exact mv_less (Nat.zero_le _) (Nat.zero_le _) (L59_20 4294967296 0 20 T10 M8 n9 I12 t17 (by have := R15.1 27 _ _ rfl; first | omega | decide | exact fun h9 => absurd (by decide) h9) (by have := R15.1 27 _ _ rfl; first | omega | decide | exact fun h9 => absurd (by decide) h9) (by have := R15.1 27 _ _ rfl; first | omega | decide | exact fun h9 => absurd (by decide) h9) R15 K19 (by show (2147483647 - (0 : Int) : Int) < _; decide))
          · refine mv_iconst (v := 0) d_TrustDeskModel_toldOn_42 (by decide) ?_
            refine mv_goto (tgt := 48) d_TrustDeskModel_toldOn_43 (by decide) ?_
            refine mv_istore_n (lv' := [(3, .int 0), (0, .ref o0), (1, .int x1), (2, .int x2)]) d_TrustDeskModel_toldOn_48 rfl (by decide) rfl ?_
            refine mv_aload_n d_TrustDeskModel_toldOn_49 rfl rfl ?_
            refine mv_iload_n d_TrustDeskModel_toldOn_50 rfl rfl ?_
            obtain ⟨_, b50, -⟩ := I0.1 _ _ h_o0
            refine mv_callV (kc' := 0) (ks' := 0) (As := [.int x1]) (st9 := [.int x1, .ref o0]) d_TrustDeskModel_toldOn_51 lV_TrustDeskModel_391 b50 rfl (tc_TrustDeskModel_actOn_x (d := d) (x9 := x9) (o0 := o0) (x1 := x1) h_o0 yR I0.start) rfl (Nat.le_of_ble_eq_true rfl) (Nat.le_of_ble_eq_true rfl) (Nat.le_of_ble_eq_true rfl) (hst := rfl) (fun b44r M45 n46 b44 => ?_)
            obtain ⟨T47, J48, v51, rfl, R52, f53⟩ := b44
            have I49 := I0.call J48 (tm_sub (by decide)) (Or.inl rfl)
            have t54 := J48.up h_o0
            have z55 := (rv_c I0 J48 (I0.up h_o0) (k := 27) rfl)
            have K56 : ∀ i : Nat, i < 880 → 0 ≤ ra M45 o0 8 i := (by have e9 := ((sA_c I0 J48 (I0.up h_o0) (by decide +kernel)) : sA [8] _ _ _) 8 rfl; rw [e9]; exact K1)
            refine mv_istore (lv' := [(4, .int v51), (3, .int 0), (0, .ref o0), (1, .int x1), (2, .int x2)]) d_TrustDeskModel_toldOn_54 (by decide) rfl ?_
            refine mv_iconst (v := 0) d_TrustDeskModel_toldOn_56 (by decide) ?_
            refine mv_istore (lv' := [(5, .int 0), (4, .int v51), (3, .int 0), (0, .ref o0), (1, .int x1), (2, .int x2)]) d_TrustDeskModel_toldOn_57 (by decide) rfl ?_
            have L59_57 : ∀ (k : Nat) (i5_57 : Int32) (i3_57 : Int32) (T_57 : tm_H) (M_57 : mj_M) (n_57 : Nat), tm_I tm_FT (tm_in w_TrustDeskModel_toldOn_x) x9 T0 M0 n0 T_57 M_57 n_57 → T_57 o0 = some (0, 13, 0) → 0 ≤ i5_57.toInt → 0 ≤ i3_57.toInt → i3_57.toInt ≤ 720 → (rI M_57 o0) → (∀ i : Nat, i < 880 → 0 ≤ ra M_57 o0 8 i) → 2147483647 - i5_57.toInt < (k : Int) → mj_V g l kY_TrustDeskModel_toldOn (d + 1) 59 [(5, .int i5_57), (4, .int v51), (3, .int i3_57), (0, .ref o0), (1, .int x1), (2, .int x2)] [] M_57 n_57 0 0 (tm_Q tm_FT (tm_in w_TrustDeskModel_toldOn_x) x9 T0 M0 n0 (fun r _ M => ∃ v : Int32, r = some (.int v) ∧ rI M o0 ∧ (0 ≤ v.toInt ∧ v.toInt ≤ 720))) := by
              intro k57
              induction k57 with
              | zero =>
                intro i5_57 i3_57 T_57 M_57 n_57 I_57 h_q0_57 iv0_57 iv1_57 iv2_57 kKR_57 kK8_57 hk57
                have := mz_hi i5_57
                have := kKR_57.1 15 _ _ rfl
                have := kKR_57.1 16 _ _ rfl
                have := kKR_57.1 19 _ _ rfl
                omega
              | succ k57 ih57 =>
                intro i5_57 i3_57 T_57 M_57 n_57 I_57 h_q0_57 iv0_57 iv1_57 iv2_57 kKR_57 kK8_57 hk57
                refine mv_iload d_TrustDeskModel_toldOn_59 rfl ?_
                refine mv_iconst (v := (-1)) d_TrustDeskModel_toldOn_61 (by decide) ?_
                have := mz_hi v51
                refine mv_icmp_eqZ (tgt := 114) (a := v51.toInt) (b := (-1)) d_TrustDeskModel_toldOn_62 (by decide) rfl (by decide) (fun b58 => ?_) (fun b58 => ?_)
                · refine mv_iload_n d_TrustDeskModel_toldOn_114 rfl rfl ?_
                  exact mv_iret d_TrustDeskModel_toldOn_115 rfl (by first | rfl | decide) ⟨_, I_57, _, rfl, kKR_57, (by have := kKR_57.1 27 _ _ rfl; omega)⟩
                · refine mv_iload d_TrustDeskModel_toldOn_65 rfl ?_
                  refine mv_aload_n d_TrustDeskModel_toldOn_67 rfl rfl ?_
                  obtain ⟨a60, q59, t_a60⟩ := tm_atR I_57 h_q0_57 (k := 6) rfl
                  refine tr_getK q59 d_TrustDeskModel_toldOn_68 f_TrustDeskModel_23_13 ?_
                  refine mv_iload d_TrustDeskModel_toldOn_71 rfl ?_
                  refine tr_ialdR (o := o0) (k := 6) I_57 q59 t_a60 (by decide) d_TrustDeskModel_toldOn_73 (vp_in_iff.mpr (by have := kKR_57.1 27 _ _ rfl; omega)) (fun v61 e62 => ?_)
                  have := kKR_57.a (k := 6) rfl (v51 : Int32).toNatClampNeg
                  have := mz_hi i5_57
                  have := mz_hi v61
                  refine mv_icmp_geZ (tgt := 114) (a := i5_57.toInt) (b := v61.toInt) d_TrustDeskModel_toldOn_74 (by decide) rfl rfl (fun b63 => ?_) (fun b63 => ?_)
                  · refine mv_iload_n d_TrustDeskModel_toldOn_114 rfl rfl ?_
                    exact mv_iret d_TrustDeskModel_toldOn_115 rfl (by first | rfl | decide) ⟨_, I_57, _, rfl, kKR_57, (by have := kKR_57.1 27 _ _ rfl; omega)⟩
                  · refine mv_aload_n d_TrustDeskModel_toldOn_77 rfl rfl ?_
                    obtain ⟨a65, q64, t_a65⟩ := tm_atR I_57 h_q0_57 (k := 7) rfl
                    refine tr_getK q64 d_TrustDeskModel_toldOn_78 f_TrustDeskModel_26_13 ?_
                    refine mv_bipush (v := 20) d_TrustDeskModel_toldOn_81 (by decide) ?_
                    refine mv_iload d_TrustDeskModel_toldOn_83 rfl ?_
                    refine mv_imul d_TrustDeskModel_toldOn_85 ?_
                    refine mv_iload d_TrustDeskModel_toldOn_86 rfl ?_
                    refine mv_iadd d_TrustDeskModel_toldOn_88 ?_
                    have b66 : (20 * v51 : Int32).toInt = (20 * v51.toInt) := mz_mul2 (by decide) rfl (by have := kKR_57.1 27 _ _ rfl; omega) (by have := kKR_57.1 27 _ _ rfl; omega)
                    have b67 : ((20 * v51) + i5_57 : Int32).toInt = ((20 * v51.toInt) + i5_57.toInt) := mz_add2 b66 rfl (by have := kKR_57.1 27 _ _ rfl; omega) (by have := kKR_57.1 27 _ _ rfl; omega)
                    refine tr_ialdR (o := o0) (k := 7) I_57 q64 t_a65 (by decide) d_TrustDeskModel_toldOn_89 (vp_in_iff.mpr (by have := kKR_57.1 27 _ _ rfl; omega)) (fun v68 e69 => ?_)
                    refine mv_iload_n d_TrustDeskModel_toldOn_90 rfl rfl ?_
                    have := mz_hi v68
                    have := mz_hi x2
                    refine mv_icmp_neZ (tgt := 108) (a := v68.toInt) (b := x2.toInt) d_TrustDeskModel_toldOn_91 (by decide) rfl rfl (fun b70 => ?_) (fun b70 => ?_)
                    · refine mv_iinc (v := (i5_57 + 1)) (lv' := [(5, .int (i5_57 + 1)), (4, .int v51), (3, .int i3_57), (0, .ref o0), (1, .int x1), (2, .int x2)]) d_TrustDeskModel_toldOn_108 rfl rfl (by decide) rfl ?_
                      refine mv_goto (tgt := 59) d_TrustDeskModel_toldOn_111 (by decide) ?_
                      have b71 : (i5_57 + 1 : Int32).toInt = (i5_57.toInt + 1) := mz_add2 rfl (by decide) (by have := kKR_57.1 27 _ _ rfl; omega) (by have := kKR_57.1 27 _ _ rfl; omega)
                      have b72 : (i5_57 + 1).toInt = i5_57.toInt + 1 := mz_addn 1 1 (by decide) (by have := mz_lo i5_57; omega) (by have := mz_hi i5_57; omega)
                      exact (ih57 (i5_57 + 1) i3_57 T_57 M_57 n_57 I_57 h_q0_57 (by have := kKR_57.1 27 _ _ rfl; first | omega | decide | exact fun h9 => absurd (by decide) h9) (by have := kKR_57.1 27 _ _ rfl; first | omega | decide | exact fun h9 => absurd (by decide) h9) (by have := kKR_57.1 27 _ _ rfl; first | omega | decide | exact fun h9 => absurd (by decide) h9) kKR_57 kK8_57 (by have := kKR_57.1 27 _ _ rfl; omega))
                    · refine mv_aload_n d_TrustDeskModel_toldOn_94 rfl rfl ?_
                      obtain ⟨a74, q73, t_a74⟩ := tm_atR I_57 h_q0_57 (k := 8) rfl
                      refine tr_getK q73 d_TrustDeskModel_toldOn_95 f_TrustDeskModel_29_13 ?_
                      refine mv_bipush (v := 20) d_TrustDeskModel_toldOn_98 (by decide) ?_
                      refine mv_iload d_TrustDeskModel_toldOn_100 rfl ?_
                      refine mv_imul d_TrustDeskModel_toldOn_102 ?_
                      refine mv_iload d_TrustDeskModel_toldOn_103 rfl ?_
                      refine mv_iadd d_TrustDeskModel_toldOn_105 ?_
                      have b75 : (20 * v51 : Int32).toInt = (20 * v51.toInt) := mz_mul2 (by decide) rfl (by have := kKR_57.1 27 _ _ rfl; omega) (by have := kKR_57.1 27 _ _ rfl; omega)
                      have b76 : ((20 * v51) + i5_57 : Int32).toInt = ((20 * v51.toInt) + i5_57.toInt) := mz_add2 b75 rfl (by have := kKR_57.1 27 _ _ rfl; omega) (by have := kKR_57.1 27 _ _ rfl; omega)
                      refine tr_ialdR (o := o0) (k := 8) I_57 q73 t_a74 (by decide) d_TrustDeskModel_toldOn_106 (vp_in_iff.mpr (by have := kKR_57.1 27 _ _ rfl; omega)) (fun v77 e78 => ?_)
                      have := kKR_57.a (k := 8) rfl (((20 * v51) + i5_57) : Int32).toNatClampNeg
                      have := kK8_57 ((20 * v51) + i5_57).toNatClampNeg (by have := mz_nat9 (i := ((20 * v51) + i5_57)) (by have := kKR_57.1 27 _ _ rfl; omega); have := kKR_57.1 27 _ _ rfl; omega)
                      refine mv_istore_n (lv' := [(3, .int v77), (5, .int i5_57), (4, .int v51), (0, .ref o0), (1, .int x1), (2, .int x2)]) d_TrustDeskModel_toldOn_107 rfl (by decide) rfl ?_
                      refine mv_iinc (v := (i5_57 + 1)) (lv' := [(5, .int (i5_57 + 1)), (3, .int v77), (4, .int v51), (0, .ref o0), (1, .int x1), (2, .int x2)]) d_TrustDeskModel_toldOn_108 rfl rfl (by decide) rfl ?_
                      refine mv_goto (tgt := 59) d_TrustDeskModel_toldOn_111 (by decide) ?_
                      have b79 : (i5_57 + 1 : Int32).toInt = (i5_57.toInt + 1) := mz_add2 rfl (by decide) (by have := kKR_57.1 27 _ _ rfl; omega) (by have := kKR_57.1 27 _ _ rfl; omega)
                      refine mv_locals (lv' := [(5, .int (i5_57 + 1)), (4, .int v51), (3, .int v77), (0, .ref o0), (1, .int x1), (2, .int x2)]) (by intro q hq; simp only [List.mem_cons, List.not_mem_nil, or_false] at hq; rcases hq with rfl | rfl | rfl | rfl | rfl | rfl <;> rfl) ?_
                      have b80 : (i5_57 + 1).toInt = i5_57.toInt + 1 := mz_addn 1 1 (by decide) (by have := mz_lo i5_57; omega) (by have := mz_hi i5_57; omega)
                      exact (ih57 (i5_57 + 1) v77 T_57 M_57 n_57 I_57 h_q0_57 (by have := kKR_57.1 27 _ _ rfl; first | omega | decide | exact fun h9 => absurd (by decide) h9) (by have := kKR_57.1 27 _ _ rfl; first | omega | decide | exact fun h9 => absurd (by decide) h9) (by have := kKR_57.1 27 _ _ rfl; first | omega | decide | exact fun h9 => absurd (by decide) h9) kKR_57 kK8_57 (by have := kKR_57.1 27 _ _ rfl; omega))
            have : (0 : Int32).toInt = 0 := by decide
            exact mv_less (Nat.zero_le _) (Nat.zero_le _) (L59_57 4294967296 0 0 T47 M45 n46 I49 t54 (by have := R52.1 27 _ _ rfl; first | omega | decide | exact fun h9 => absurd (by decide) h9) (by have := R52.1 27 _ _ rfl; first | omega | decide | exact fun h9 => absurd (by decide) h9) (by have := R52.1 27 _ _ rfl; first | omega | decide | exact fun h9 => absurd (by decide) h9) R52 K56 (by show (2147483647 - (0 : Int) : Int) < _; decide))
        · refine mv_bipush (v := 90) d_TrustDeskModel_toldOn_32 (by decide) ?_
          refine mv_goto (tgt := 48) d_TrustDeskModel_toldOn_34 (by decide) ?_
          refine mv_istore_n (lv' := [(3, .int 90), (0, .ref o0), (1, .int x1), (2, .int x2)]) d_TrustDeskModel_toldOn_48 rfl (by decide) rfl ?_
          refine mv_aload_n d_TrustDeskModel_toldOn_49 rfl rfl ?_
          refine mv_iload_n d_TrustDeskModel_toldOn_50 rfl rfl ?_
          obtain ⟨_, b87, -⟩ := I0.1 _ _ h_o0
          refine mv_callV (kc' := 0) (ks' := 0) (As := [.int x1]) (st9 := [.int x1, .ref o0]) d_TrustDeskModel_toldOn_51 lV_TrustDeskModel_391 b87 rfl (tc_TrustDeskModel_actOn_x (d := d) (x9 := x9) (o0 := o0) (x1 := x1) h_o0 yR I0.start) rfl (Nat.le_of_ble_eq_true rfl) (Nat.le_of_ble_eq_true rfl) (Nat.le_of_ble_eq_true rfl) (hst := rfl) (fun b81r M82 n83 b81 => ?_)
          obtain ⟨T84, J85, v88, rfl, R89, f90⟩ := b81
          have I86 := I0.call J85 (tm_sub (by decide)) (Or.inl rfl)
          have t91 := J85.up h_o0
          have z92 := (rv_c I0 J85 (I0.up h_o0) (k := 27) rfl)
          have K93 : ∀ i : Nat, i < 880 → 0 ≤ ra M82 o0 8 i := (by have e9 := ((sA_c I0 J85 (I0.up h_o0) (by decide +kernel)) : sA [8] _ _ _) 8 rfl; rw [e9]; exact K1)
          refine mv_istore (lv' := [(4, .int v88), (3, .int 90), (0, .ref o0), (1, .int x1), (2, .int x2)]) d_TrustDeskModel_toldOn_54 (by decide) rfl ?_
          refine mv_iconst (v := 0) d_TrustDeskModel_toldOn_56 (by decide) ?_
          refine mv_istore (lv' := [(5, .int 0), (4, .int v88), (3, .int 90), (0, .ref o0), (1, .int x1), (2, .int x2)]) d_TrustDeskModel_toldOn_57 (by decide) rfl ?_
          have L59_94 : ∀ (k : Nat) (i5_94 : Int32) (i3_94 : Int32) (T_94 : tm_H) (M_94 : mj_M) (n_94 : Nat), tm_I tm_FT (tm_in w_TrustDeskModel_toldOn_x) x9 T0 M0 n0 T_94 M_94 n_94 → T_94 o0 = some (0, 13, 0) → 0 ≤ i5_94.toInt → 0 ≤ i3_94.toInt → i3_94.toInt ≤ 720 → (rI M_94 o0) → (∀ i : Nat, i < 880 → 0 ≤ ra M_94 o0 8 i) → 2147483647 - i5_94.toInt < (k : Int) → mj_V g l kY_TrustDeskModel_toldOn (d + 1) 59 [(5, .int i5_94), (4, .int v88), (3, .int i3_94), (0, .ref o0), (1, .int x1), (2, .int x2)] [] M_94 n_94 0 0 (tm_Q tm_FT (tm_in w_TrustDeskModel_toldOn_x) x9 T0 M0 n0 (fun r _ M => ∃ v : Int32, r = some (.int v) ∧ rI M o0 ∧ (0 ≤ v.toInt ∧ v.toInt ≤ 720))) := by
            intro k94
            induction k94 with
            | zero =>
              intro i5_94 i3_94 T_94 M_94 n_94 I_94 h_q0_94 iv0_94 iv1_94 iv2_94 kKR_94 kK8_94 hk94
              have := mz_hi i5_94
              have := kKR_94.1 15 _ _ rfl
              have := kKR_94.1 16 _ _ rfl
              have := kKR_94.1 19 _ _ rfl
              omega
            | succ k94 ih94 =>
              intro i5_94 i3_94 T_94 M_94 n_94 I_94 h_q0_94 iv0_94 iv1_94 iv2_94 kKR_94 kK8_94 hk94
              refine mv_iload d_TrustDeskModel_toldOn_59 rfl ?_
              refine mv_iconst (v := (-1)) d_TrustDeskModel_toldOn_61 (by decide) ?_
              have := mz_hi v88
              refine mv_icmp_eqZ (tgt := 114) (a := v88.toInt) (b := (-1)) d_TrustDeskModel_toldOn_62 (by decide) rfl (by decide) (fun b95 => ?_) (fun b95 => ?_)
              · refine mv_iload_n d_TrustDeskModel_toldOn_114 rfl rfl ?_
                exact mv_iret d_TrustDeskModel_toldOn_115 rfl (by first | rfl | decide) ⟨_, I_94, _, rfl, kKR_94, (by have := kKR_94.1 27 _ _ rfl; omega)⟩
              · refine mv_iload d_TrustDeskModel_toldOn_65 rfl ?_
                refine mv_aload_n d_TrustDeskModel_toldOn_67 rfl rfl ?_
                obtain ⟨a97, q96, t_a97⟩ := tm_atR I_94 h_q0_94 (k := 6) rfl
                refine tr_getK q96 d_TrustDeskModel_toldOn_68 f_TrustDeskModel_23_13 ?_
                refine mv_iload d_TrustDeskModel_toldOn_71 rfl ?_
                refine tr_ialdR (o := o0) (k := 6) I_94 q96 t_a97 (by decide) d_TrustDeskModel_toldOn_73 (vp_in_iff.mpr (by have := kKR_94.1 27 _ _ rfl; omega)) (fun v98 e99 => ?_)
                have := kKR_94.a (k := 6) rfl (v88 : Int32).toNatClampNeg
                have := mz_hi i5_94
                have := mz_hi v98
                refine mv_icmp_geZ (tgt := 114) (a := i5_94.toInt) (b := v98.toInt) d_TrustDeskModel_toldOn_74 (by decide) rfl rfl (fun b100 => ?_) (fun b100 => ?_)
                · refine mv_iload_n d_TrustDeskModel_toldOn_114 rfl rfl ?_
                  exact mv_iret d_TrustDeskModel_toldOn_115 rfl (by first | rfl | decide) ⟨_, I_94, _, rfl, kKR_94, (by have := kKR_94.1 27 _ _ rfl; omega)⟩
                · refine mv_aload_n d_TrustDeskModel_toldOn_77 rfl rfl ?_
                  obtain ⟨a102, q101, t_a102⟩ := tm_atR I_94 h_q0_94 (k := 7) rfl
                  refine tr_getK q101 d_TrustDeskModel_toldOn_78 f_TrustDeskModel_26_13 ?_
                  refine mv_bipush (v := 20) d_TrustDeskModel_toldOn_81 (by decide) ?_
                  refine mv_iload d_TrustDeskModel_toldOn_83 rfl ?_
                  refine mv_imul d_TrustDeskModel_toldOn_85 ?_
                  refine mv_iload d_TrustDeskModel_toldOn_86 rfl ?_
                  refine mv_iadd d_TrustDeskModel_toldOn_88 ?_
                  have b103 : (20 * v88 : Int32).toInt = (20 * v88.toInt) := mz_mul2 (by decide) rfl (by have := kKR_94.1 27 _ _ rfl; omega) (by have := kKR_94.1 27 _ _ rfl; omega)
                  have b104 : ((20 * v88) + i5_94 : Int32).toInt = ((20 * v88.toInt) + i5_94.toInt) := mz_add2 b103 rfl (by have := kKR_94.1 27 _ _ rfl; omega) (by have := kKR_94.1 27 _ _ rfl; omega)
                  refine tr_ialdR (o := o0) (k := 7) I_94 q101 t_a102 (by decide) d_TrustDeskModel_toldOn_89 (vp_in_iff.mpr (by have := kKR_94.1 27 _ _ rfl; omega)) (fun v105 e106 => ?_)
                  refine mv_iload_n d_TrustDeskModel_toldOn_90 rfl rfl ?_
                  have := mz_hi v105
                  have := mz_hi x2
                  refine mv_icmp_neZ (tgt := 108) (a := v105.toInt) (b := x2.toInt) d_TrustDeskModel_toldOn_91 (by decide) rfl rfl (fun b107 => ?_) (fun b107 => ?_)
                  · refine mv_iinc (v := (i5_94 + 1)) (lv' := [(5, .int (i5_94 + 1)), (4, .int v88), (3, .int i3_94), (0, .ref o0), (1, .int x1), (2, .int x2)]) d_TrustDeskModel_toldOn_108 rfl rfl (by decide) rfl ?_
                    refine mv_goto (tgt := 59) d_TrustDeskModel_toldOn_111 (by decide) ?_
                    have b108 : (i5_94 + 1 : Int32).toInt = (i5_94.toInt + 1) := mz_add2 rfl (by decide) (by have := kKR_94.1 27 _ _ rfl; omega) (by have := kKR_94.1 27 _ _ rfl; omega)
                    have b109 : (i5_94 + 1).toInt = i5_94.toInt + 1 := mz_addn 1 1 (by decide) (by have := mz_lo i5_94; omega) (by have := mz_hi i5_94; omega)
                    exact (ih94 (i5_94 + 1) i3_94 T_94 M_94 n_94 I_94 h_q0_94 (by have := kKR_94.1 27 _ _ rfl; first | omega | decide | exact fun h9 => absurd (by decide) h9) (by have := kKR_94.1 27 _ _ rfl; first | omega | decide | exact fun h9 => absurd (by decide) h9) (by have := kKR_94.1 27 _ _ rfl; first | omega | decide | exact fun h9 => absurd (by decide) h9) kKR_94 kK8_94 (by have := kKR_94.1 27 _ _ rfl; omega))
                  · refine mv_aload_n d_TrustDeskModel_toldOn_94 rfl rfl ?_
                    obtain ⟨a111, q110, t_a111⟩ := tm_atR I_94 h_q0_94 (k := 8) rfl
                    refine tr_getK q110 d_TrustDeskModel_toldOn_95 f_TrustDeskModel_29_13 ?_
                    refine mv_bipush (v := 20) d_TrustDeskModel_toldOn_98 (by decide) ?_
                    refine mv_iload d_TrustDeskModel_toldOn_100 rfl ?_
                    refine mv_imul d_TrustDeskModel_toldOn_102 ?_
                    refine mv_iload d_TrustDeskModel_toldOn_103 rfl ?_
                    refine mv_iadd d_TrustDeskModel_toldOn_105 ?_
                    have b112 : (20 * v88 : Int32).toInt = (20 * v88.toInt) := mz_mul2 (by decide) rfl (by have := kKR_94.1 27 _ _ rfl; omega) (by have := kKR_94.1 27 _ _ rfl; omega)
                    have b113 : ((20 * v88) + i5_94 : Int32).toInt = ((20 * v88.toInt) + i5_94.toInt) := mz_add2 b112 rfl (by have := kKR_94.1 27 _ _ rfl; omega) (by have := kKR_94.1 27 _ _ rfl; omega)
                    refine tr_ialdR (o := o0) (k := 8) I_94 q110 t_a111 (by decide) d_TrustDeskModel_toldOn_106 (vp_in_iff.mpr (by have := kKR_94.1 27 _ _ rfl; omega)) (fun v114 e115 => ?_)
                    have := kKR_94.a (k := 8) rfl (((20 * v88) + i5_94) : Int32).toNatClampNeg
                    have := kK8_94 ((20 * v88) + i5_94).toNatClampNeg (by have := mz_nat9 (i := ((20 * v88) + i5_94)) (by have := kKR_94.1 27 _ _ rfl; omega); have := kKR_94.1 27 _ _ rfl; omega)
                    refine mv_istore_n (lv' := [(3, .int v114), (5, .int i5_94), (4, .int v88), (0, .ref o0), (1, .int x1), (2, .int x2)]) d_TrustDeskModel_toldOn_107 rfl (by decide) rfl ?_
                    refine mv_iinc (v := (i5_94 + 1)) (lv' := [(5, .int (i5_94 + 1)), (3, .int v114), (4, .int v88), (0, .ref o0), (1, .int x1), (2, .int x2)]) d_TrustDeskModel_toldOn_108 rfl rfl (by decide) rfl ?_
                    refine mv_goto (tgt := 59) d_TrustDeskModel_toldOn_111 (by decide) ?_
                    have b116 : (i5_94 + 1 : Int32).toInt = (i5_94.toInt + 1) := mz_add2 rfl (by decide) (by have := kKR_94.1 27 _ _ rfl; omega) (by have := kKR_94.1 27 _ _ rfl; omega)
                    refine mv_locals (lv' := [(5, .int (i5_94 + 1)), (4, .int v88), (3, .int v114), (0, .ref o0), (1, .int x1), (2, .int x2)]) (by intro q hq; simp only [List.mem_cons, List.not_mem_nil, or_false] at hq; rcases hq with rfl | rfl | rfl | rfl | rfl | rfl <;> rfl) ?_
                    have b117 : (i5_94 + 1).toInt = i5_94.toInt + 1 := mz_addn 1 1 (by decide) (by have := mz_lo i5_94; omega) (by have := mz_hi i5_94; omega)
                    exact (ih94 (i5_94 + 1) v114 T_94 M_94 n_94 I_94 h_q0_94 (by have := kKR_94.1 27 _ _ rfl; first | omega | decide | exact fun h9 => absurd (by decide) h9) (by have := kKR_94.1 27 _ _ rfl; first | omega | decide | exact fun h9 => absurd (by decide) h9) (by have := kKR_94.1 27 _ _ rfl; first | omega | decide | exact fun h9 => absurd (by decide) h9) kKR_94 kK8_94 (by have := kKR_94.1 27 _ _ rfl; omega))
          have : (0 : Int32).toInt = 0 := by decide
          have : (90 : Int32).toInt = 90 := by decide
          exact mv_less (Nat.zero_le _) (Nat.zero_le _) (L59_94 4294967296 0 90 T84 M82 n83 I86 t91 (by have := R89.1 27 _ _ rfl; first | omega | decide | exact fun h9 => absurd (by decide) h9) (by have := R89.1 27 _ _ rfl; first | omega | decide | exact fun h9 => absurd (by decide) h9) (by have := R89.1 27 _ _ rfl; first | omega | decide | exact fun h9 => absurd (by decide) h9) R89 K93 (by show (2147483647 - (0 : Int) : Int) < _; decide))
      · refine mv_bipush (v := 30) d_TrustDeskModel_toldOn_22 (by decide) ?_
        refine mv_goto (tgt := 48) d_TrustDeskModel_toldOn_24 (by decide) ?_
        refine mv_istore_n (lv' := [(3, .int 30), (0, .ref o0), (1, .int x1), (2, .int x2)]) d_TrustDeskModel_toldOn_48 rfl (by decide) rfl ?_
        refine mv_aload_n d_TrustDeskModel_toldOn_49 rfl rfl ?_
        refine mv_iload_n d_TrustDeskModel_toldOn_50 rfl rfl ?_
        obtain ⟨_, b124, -⟩ := I0.1 _ _ h_o0
        refine mv_callV (kc' := 0) (ks' := 0) (As := [.int x1]) (st9 := [.int x1, .ref o0]) d_TrustDeskModel_toldOn_51 lV_TrustDeskModel_391 b124 rfl (tc_TrustDeskModel_actOn_x (d := d) (x9 := x9) (o0 := o0) (x1 := x1) h_o0 yR I0.start) rfl (Nat.le_of_ble_eq_true rfl) (Nat.le_of_ble_eq_true rfl) (Nat.le_of_ble_eq_true rfl) (hst := rfl) (fun b118r M119 n120 b118 => ?_)
        obtain ⟨T121, J122, v125, rfl, R126, f127⟩ := b118
        have I123 := I0.call J122 (tm_sub (by decide)) (Or.inl rfl)
        have t128 := J122.up h_o0
        have z129 := (rv_c I0 J122 (I0.up h_o0) (k := 27) rfl)
        have K130 : ∀ i : Nat, i < 880 → 0 ≤ ra M119 o0 8 i := (by have e9 := ((sA_c I0 J122 (I0.up h_o0) (by decide +kernel)) : sA [8] _ _ _) 8 rfl; rw [e9]; exact K1)
        refine mv_istore (lv' := [(4, .int v125), (3, .int 30), (0, .ref o0), (1, .int x1), (2, .int x2)]) d_TrustDeskModel_toldOn_54 (by decide) rfl ?_
        refine mv_iconst (v := 0) d_TrustDeskModel_toldOn_56 (by decide) ?_
        refine mv_istore (lv' := [(5, .int 0), (4, .int v125), (3, .int 30), (0, .ref o0), (1, .int x1), (2, .int x2)]) d_TrustDeskModel_toldOn_57 (by decide) rfl ?_
        have L59_131 : ∀ (k : Nat) (i5_131 : Int32) (i3_131 : Int32) (T_131 : tm_H) (M_131 : mj_M) (n_131 : Nat), tm_I tm_FT (tm_in w_TrustDeskModel_toldOn_x) x9 T0 M0 n0 T_131 M_131 n_131 → T_131 o0 = some (0, 13, 0) → 0 ≤ i5_131.toInt → 0 ≤ i3_131.toInt → i3_131.toInt ≤ 720 → (rI M_131 o0) → (∀ i : Nat, i < 880 → 0 ≤ ra M_131 o0 8 i) → 2147483647 - i5_131.toInt < (k : Int) → mj_V g l kY_TrustDeskModel_toldOn (d + 1) 59 [(5, .int i5_131), (4, .int v125), (3, .int i3_131), (0, .ref o0), (1, .int x1), (2, .int x2)] [] M_131 n_131 0 0 (tm_Q tm_FT (tm_in w_TrustDeskModel_toldOn_x) x9 T0 M0 n0 (fun r _ M => ∃ v : Int32, r = some (.int v) ∧ rI M o0 ∧ (0 ≤ v.toInt ∧ v.toInt ≤ 720))) := by
          intro k131
          induction k131 with
          | zero =>
            intro i5_131 i3_131 T_131 M_131 n_131 I_131 h_q0_131 iv0_131 iv1_131 iv2_131 kKR_131 kK8_131 hk131
            have := mz_hi i5_131
            have := kKR_131.1 15 _ _ rfl
            have := kKR_131.1 16 _ _ rfl
            have := kKR_131.1 19 _ _ rfl
            omega
          | succ k131 ih131 =>
            intro i5_131 i3_131 T_131 M_131 n_131 I_131 h_q0_131 iv0_131 iv1_131 iv2_131 kKR_131 kK8_131 hk131
            refine mv_iload d_TrustDeskModel_toldOn_59 rfl ?_
            refine mv_iconst (v := (-1)) d_TrustDeskModel_toldOn_61 (by decide) ?_
            have := mz_hi v125
            refine mv_icmp_eqZ (tgt := 114) (a := v125.toInt) (b := (-1)) d_TrustDeskModel_toldOn_62 (by decide) rfl (by decide) (fun b132 => ?_) (fun b132 => ?_)
            · refine mv_iload_n d_TrustDeskModel_toldOn_114 rfl rfl ?_
              exact mv_iret d_TrustDeskModel_toldOn_115 rfl (by first | rfl | decide) ⟨_, I_131, _, rfl, kKR_131, (by have := kKR_131.1 27 _ _ rfl; omega)⟩
            · refine mv_iload d_TrustDeskModel_toldOn_65 rfl ?_
              refine mv_aload_n d_TrustDeskModel_toldOn_67 rfl rfl ?_
              obtain ⟨a134, q133, t_a134⟩ := tm_atR I_131 h_q0_131 (k := 6) rfl
              refine tr_getK q133 d_TrustDeskModel_toldOn_68 f_TrustDeskModel_23_13 ?_
              refine mv_iload d_TrustDeskModel_toldOn_71 rfl ?_
              refine tr_ialdR (o := o0) (k := 6) I_131 q133 t_a134 (by decide) d_TrustDeskModel_toldOn_73 (vp_in_iff.mpr (by have := kKR_131.1 27 _ _ rfl; omega)) (fun v135 e136 => ?_)
              have := kKR_131.a (k := 6) rfl (v125 : Int32).toNatClampNeg
              have := mz_hi i5_131
              have := mz_hi v135
              refine mv_icmp_geZ (tgt := 114) (a := i5_131.toInt) (b := v135.toInt) d_TrustDeskModel_toldOn_74 (by decide) rfl rfl (fun b137 => ?_) (fun b137 => ?_)
              · refine mv_iload_n d_TrustDeskModel_toldOn_114 rfl rfl ?_
                exact mv_iret d_TrustDeskModel_toldOn_115 rfl (by first | rfl | decide) ⟨_, I_131, _, rfl, kKR_131, (by have := kKR_131.1 27 _ _ rfl; omega)⟩
              · refine mv_aload_n d_TrustDeskModel_toldOn_77 rfl rfl ?_
                obtain ⟨a139, q138, t_a139⟩ := tm_atR I_131 h_q0_131 (k := 7) rfl
                refine tr_getK q138 d_TrustDeskModel_toldOn_78 f_TrustDeskModel_26_13 ?_
                refine mv_bipush (v := 20) d_TrustDeskModel_toldOn_81 (by decide) ?_
                refine mv_iload d_TrustDeskModel_toldOn_83 rfl ?_
                refine mv_imul d_TrustDeskModel_toldOn_85 ?_
                refine mv_iload d_TrustDeskModel_toldOn_86 rfl ?_
                refine mv_iadd d_TrustDeskModel_toldOn_88 ?_
                have b140 : (20 * v125 : Int32).toInt = (20 * v125.toInt) := mz_mul2 (by decide) rfl (by have := kKR_131.1 27 _ _ rfl; omega) (by have := kKR_131.1 27 _ _ rfl; omega)
                have b141 : ((20 * v125) + i5_131 : Int32).toInt = ((20 * v125.toInt) + i5_131.toInt) := mz_add2 b140 rfl (by have := kKR_131.1 27 _ _ rfl; omega) (by have := kKR_131.1 27 _ _ rfl; omega)
                refine tr_ialdR (o := o0) (k := 7) I_131 q138 t_a139 (by decide) d_TrustDeskModel_toldOn_89 (vp_in_iff.mpr (by have := kKR_131.1 27 _ _ rfl; omega)) (fun v142 e143 => ?_)
                refine mv_iload_n d_TrustDeskModel_toldOn_90 rfl rfl ?_
                have := mz_hi v142
                have := mz_hi x2
                refine mv_icmp_neZ (tgt := 108) (a := v142.toInt) (b := x2.toInt) d_TrustDeskModel_toldOn_91 (by decide) rfl rfl (fun b144 => ?_) (fun b144 => ?_)
                · refine mv_iinc (v := (i5_131 + 1)) (lv' := [(5, .int (i5_131 + 1)), (4, .int v125), (3, .int i3_131), (0, .ref o0), (1, .int x1), (2, .int x2)]) d_TrustDeskModel_toldOn_108 rfl rfl (by decide) rfl ?_
                  refine mv_goto (tgt := 59) d_TrustDeskModel_toldOn_111 (by decide) ?_
                  have b145 : (i5_131 + 1 : Int32).toInt = (i5_131.toInt + 1) := mz_add2 rfl (by decide) (by have := kKR_131.1 27 _ _ rfl; omega) (by have := kKR_131.1 27 _ _ rfl; omega)
                  have b146 : (i5_131 + 1).toInt = i5_131.toInt + 1 := mz_addn 1 1 (by decide) (by have := mz_lo i5_131; omega) (by have := mz_hi i5_131; omega)
                  exact (ih131 (i5_131 + 1) i3_131 T_131 M_131 n_131 I_131 h_q0_131 (by have := kKR_131.1 27 _ _ rfl; first | omega | decide | exact fun h9 => absurd (by decide) h9) (by have := kKR_131.1 27 _ _ rfl; first | omega | decide | exact fun h9 => absurd (by decide) h9) (by have := kKR_131.1 27 _ _ rfl; first | omega | decide | exact fun h9 => absurd (by decide) h9) kKR_131 kK8_131 (by have := kKR_131.1 27 _ _ rfl; omega))
                · refine mv_aload_n d_TrustDeskModel_toldOn_94 rfl rfl ?_
                  obtain ⟨a148, q147, t_a148⟩ := tm_atR I_131 h_q0_131 (k := 8) rfl
                  refine tr_getK q147 d_TrustDeskModel_toldOn_95 f_TrustDeskModel_29_13 ?_
                  refine mv_bipush (v := 20) d_TrustDeskModel_toldOn_98 (by decide) ?_
                  refine mv_iload d_TrustDeskModel_toldOn_100 rfl ?_
                  refine mv_imul d_TrustDeskModel_toldOn_102 ?_
                  refine mv_iload d_TrustDeskModel_toldOn_103 rfl ?_
                  refine mv_iadd d_TrustDeskModel_toldOn_105 ?_
                  have b149 : (20 * v125 : Int32).toInt = (20 * v125.toInt) := mz_mul2 (by decide) rfl (by have := kKR_131.1 27 _ _ rfl; omega) (by have := kKR_131.1 27 _ _ rfl; omega)
                  have b150 : ((20 * v125) + i5_131 : Int32).toInt = ((20 * v125.toInt) + i5_131.toInt) := mz_add2 b149 rfl (by have := kKR_131.1 27 _ _ rfl; omega) (by have := kKR_131.1 27 _ _ rfl; omega)
                  refine tr_ialdR (o := o0) (k := 8) I_131 q147 t_a148 (by decide) d_TrustDeskModel_toldOn_106 (vp_in_iff.mpr (by have := kKR_131.1 27 _ _ rfl; omega)) (fun v151 e152 => ?_)
                  have := kKR_131.a (k := 8) rfl (((20 * v125) + i5_131) : Int32).toNatClampNeg
                  have := kK8_131 ((20 * v125) + i5_131).toNatClampNeg (by have := mz_nat9 (i := ((20 * v125) + i5_131)) (by have := kKR_131.1 27 _ _ rfl; omega); have := kKR_131.1 27 _ _ rfl; omega)
                  refine mv_istore_n (lv' := [(3, .int v151), (5, .int i5_131), (4, .int v125), (0, .ref o0), (1, .int x1), (2, .int x2)]) d_TrustDeskModel_toldOn_107 rfl (by decide) rfl ?_
                  refine mv_iinc (v := (i5_131 + 1)) (lv' := [(5, .int (i5_131 + 1)), (3, .int v151), (4, .int v125), (0, .ref o0), (1, .int x1), (2, .int x2)]) d_TrustDeskModel_toldOn_108 rfl rfl (by decide) rfl ?_
                  refine mv_goto (tgt := 59) d_TrustDeskModel_toldOn_111 (by decide) ?_
                  have b153 : (i5_131 + 1 : Int32).toInt = (i5_131.toInt + 1) := mz_add2 rfl (by decide) (by have := kKR_131.1 27 _ _ rfl; omega) (by have := kKR_131.1 27 _ _ rfl; omega)
                  refine mv_locals (lv' := [(5, .int (i5_131 + 1)), (4, .int v125), (3, .int v151), (0, .ref o0), (1, .int x1), (2, .int x2)]) (by intro q hq; simp only [List.mem_cons, List.not_mem_nil, or_false] at hq; rcases hq with rfl | rfl | rfl | rfl | rfl | rfl <;> rfl) ?_
                  have b154 : (i5_131 + 1).toInt = i5_131.toInt + 1 := mz_addn 1 1 (by decide) (by have := mz_lo i5_131; omega) (by have := mz_hi i5_131; omega)
                  exact (ih131 (i5_131 + 1) v151 T_131 M_131 n_131 I_131 h_q0_131 (by have := kKR_131.1 27 _ _ rfl; first | omega | decide | exact fun h9 => absurd (by decide) h9) (by have := kKR_131.1 27 _ _ rfl; first | omega | decide | exact fun h9 => absurd (by decide) h9) (by have := kKR_131.1 27 _ _ rfl; first | omega | decide | exact fun h9 => absurd (by decide) h9) kKR_131 kK8_131 (by have := kKR_131.1 27 _ _ rfl; omega))
        have : (0 : Int32).toInt = 0 := by decide
        have : (30 : Int32).toInt = 30 := by decide
        exact mv_less (Nat.zero_le _) (Nat.zero_le _) (L59_131 4294967296 0 30 T121 M119 n120 I123 t128 (by have := R126.1 27 _ _ rfl; first | omega | decide | exact fun h9 => absurd (by decide) h9) (by have := R126.1 27 _ _ rfl; first | omega | decide | exact fun h9 => absurd (by decide) h9) (by have := R126.1 27 _ _ rfl; first | omega | decide | exact fun h9 => absurd (by decide) h9) R126 K130 (by show (2147483647 - (0 : Int) : Int) < _; decide))
    · refine mv_iconst (v := 1) d_TrustDeskModel_toldOn_13 (by decide) ?_
      refine mv_goto (tgt := 48) d_TrustDeskModel_toldOn_14 (by decide) ?_
      refine mv_istore_n (lv' := [(3, .int 1), (0, .ref o0), (1, .int x1), (2, .int x2)]) d_TrustDeskModel_toldOn_48 rfl (by decide) rfl ?_
      refine mv_aload_n d_TrustDeskModel_toldOn_49 rfl rfl ?_
      refine mv_iload_n d_TrustDeskModel_toldOn_50 rfl rfl ?_
      obtain ⟨_, b161, -⟩ := I0.1 _ _ h_o0
      refine mv_callV (kc' := 0) (ks' := 0) (As := [.int x1]) (st9 := [.int x1, .ref o0]) d_TrustDeskModel_toldOn_51 lV_TrustDeskModel_391 b161 rfl (tc_TrustDeskModel_actOn_x (d := d) (x9 := x9) (o0 := o0) (x1 := x1) h_o0 yR I0.start) rfl (Nat.le_of_ble_eq_true rfl) (Nat.le_of_ble_eq_true rfl) (Nat.le_of_ble_eq_true rfl) (hst := rfl) (fun b155r M156 n157 b155 => ?_)
      obtain ⟨T158, J159, v162, rfl, R163, f164⟩ := b155
      have I160 := I0.call J159 (tm_sub (by decide)) (Or.inl rfl)
      have t165 := J159.up h_o0
      have z166 := (rv_c I0 J159 (I0.up h_o0) (k := 27) rfl)
      have K167 : ∀ i : Nat, i < 880 → 0 ≤ ra M156 o0 8 i := (by have e9 := ((sA_c I0 J159 (I0.up h_o0) (by decide +kernel)) : sA [8] _ _ _) 8 rfl; rw [e9]; exact K1)
      refine mv_istore (lv' := [(4, .int v162), (3, .int 1), (0, .ref o0), (1, .int x1), (2, .int x2)]) d_TrustDeskModel_toldOn_54 (by decide) rfl ?_
      refine mv_iconst (v := 0) d_TrustDeskModel_toldOn_56 (by decide) ?_
      refine mv_istore (lv' := [(5, .int 0), (4, .int v162), (3, .int 1), (0, .ref o0), (1, .int x1), (2, .int x2)]) d_TrustDeskModel_toldOn_57 (by decide) rfl ?_
      have L59_168 : ∀ (k : Nat) (i5_168 : Int32) (i3_168 : Int32) (T_168 : tm_H) (M_168 : mj_M) (n_168 : Nat), tm_I tm_FT (tm_in w_TrustDeskModel_toldOn_x) x9 T0 M0 n0 T_168 M_168 n_168 → T_168 o0 = some (0, 13, 0) → 0 ≤ i5_168.toInt → 0 ≤ i3_168.toInt → i3_168.toInt ≤ 720 → (rI M_168 o0) → (∀ i : Nat, i < 880 → 0 ≤ ra M_168 o0 8 i) → 2147483647 - i5_168.toInt < (k : Int) → mj_V g l kY_TrustDeskModel_toldOn (d + 1) 59 [(5, .int i5_168), (4, .int v162), (3, .int i3_168), (0, .ref o0), (1, .int x1), (2, .int x2)] [] M_168 n_168 0 0 (tm_Q tm_FT (tm_in w_TrustDeskModel_toldOn_x) x9 T0 M0 n0 (fun r _ M => ∃ v : Int32, r = some (.int v) ∧ rI M o0 ∧ (0 ≤ v.toInt ∧ v.toInt ≤ 720))) := by
        intro k168
        induction k168 with
        | zero =>
          intro i5_168 i3_168 T_168 M_168 n_168 I_168 h_q0_168 iv0_168 iv1_168 iv2_168 kKR_168 kK8_168 hk168
          have := mz_hi i5_168
          have := kKR_168.1 15 _ _ rfl
          have := kKR_168.1 16 _ _ rfl
          have := kKR_168.1 19 _ _ rfl
          omega
        | succ k168 ih168 =>
          intro i5_168 i3_168 T_168 M_168 n_168 I_168 h_q0_168 iv0_168 iv1_168 iv2_168 kKR_168 kK8_168 hk168
          refine mv_iload d_TrustDeskModel_toldOn_59 rfl ?_
          refine mv_iconst (v := (-1)) d_TrustDeskModel_toldOn_61 (by decide) ?_
          have := mz_hi v162
          refine mv_icmp_eqZ (tgt := 114) (a := v162.toInt) (b := (-1)) d_TrustDeskModel_toldOn_62 (by decide) rfl (by decide) (fun b169 => ?_) (fun b169 => ?_)
          · refine mv_iload_n d_TrustDeskModel_toldOn_114 rfl rfl ?_
            exact mv_iret d_TrustDeskModel_toldOn_115 rfl (by first | rfl | decide) ⟨_, I_168, _, rfl, kKR_168, (by have := kKR_168.1 27 _ _ rfl; omega)⟩
          · refine mv_iload d_TrustDeskModel_toldOn_65 rfl ?_
            refine mv_aload_n d_TrustDeskModel_toldOn_67 rfl rfl ?_
            obtain ⟨a171, q170, t_a171⟩ := tm_atR I_168 h_q0_168 (k := 6) rfl
            refine tr_getK q170 d_TrustDeskModel_toldOn_68 f_TrustDeskModel_23_13 ?_
            refine mv_iload d_TrustDeskModel_toldOn_71 rfl ?_
            refine tr_ialdR (o := o0) (k := 6) I_168 q170 t_a171 (by decide) d_TrustDeskModel_toldOn_73 (vp_in_iff.mpr (by have := kKR_168.1 27 _ _ rfl; omega)) (fun v172 e173 => ?_)
            have := kKR_168.a (k := 6) rfl (v162 : Int32).toNatClampNeg
            have := mz_hi i5_168
            have := mz_hi v172
            refine mv_icmp_geZ (tgt := 114) (a := i5_168.toInt) (b := v172.toInt) d_TrustDeskModel_toldOn_74 (by decide) rfl rfl (fun b174 => ?_) (fun b174 => ?_)
            · refine mv_iload_n d_TrustDeskModel_toldOn_114 rfl rfl ?_
              exact mv_iret d_TrustDeskModel_toldOn_115 rfl (by first | rfl | decide) ⟨_, I_168, _, rfl, kKR_168, (by have := kKR_168.1 27 _ _ rfl; omega)⟩
            · refine mv_aload_n d_TrustDeskModel_toldOn_77 rfl rfl ?_
              obtain ⟨a176, q175, t_a176⟩ := tm_atR I_168 h_q0_168 (k := 7) rfl
              refine tr_getK q175 d_TrustDeskModel_toldOn_78 f_TrustDeskModel_26_13 ?_
              refine mv_bipush (v := 20) d_TrustDeskModel_toldOn_81 (by decide) ?_
              refine mv_iload d_TrustDeskModel_toldOn_83 rfl ?_
              refine mv_imul d_TrustDeskModel_toldOn_85 ?_
              refine mv_iload d_TrustDeskModel_toldOn_86 rfl ?_
              refine mv_iadd d_TrustDeskModel_toldOn_88 ?_
              have b177 : (20 * v162 : Int32).toInt = (20 * v162.toInt) := mz_mul2 (by decide) rfl (by have := kKR_168.1 27 _ _ rfl; omega) (by have := kKR_168.1 27 _ _ rfl; omega)
              have b178 : ((20 * v162) + i5_168 : Int32).toInt = ((20 * v162.toInt) + i5_168.toInt) := mz_add2 b177 rfl (by have := kKR_168.1 27 _ _ rfl; omega) (by have := kKR_168.1 27 _ _ rfl; omega)
              refine tr_ialdR (o := o0) (k := 7) I_168 q175 t_a176 (by decide) d_TrustDeskModel_toldOn_89 (vp_in_iff.mpr (by have := kKR_168.1 27 _ _ rfl; omega)) (fun v179 e180 => ?_)
              refine mv_iload_n d_TrustDeskModel_toldOn_90 rfl rfl ?_
              have := mz_hi v179
              have := mz_hi x2
              refine mv_icmp_neZ (tgt := 108) (a := v179.toInt) (b := x2.toInt) d_TrustDeskModel_toldOn_91 (by decide) rfl rfl (fun b181 => ?_) (fun b181 => ?_)
              · refine mv_iinc (v := (i5_168 + 1)) (lv' := [(5, .int (i5_168 + 1)), (4, .int v162), (3, .int i3_168), (0, .ref o0), (1, .int x1), (2, .int x2)]) d_TrustDeskModel_toldOn_108 rfl rfl (by decide) rfl ?_
                refine mv_goto (tgt := 59) d_TrustDeskModel_toldOn_111 (by decide) ?_
                have b182 : (i5_168 + 1 : Int32).toInt = (i5_168.toInt + 1) := mz_add2 rfl (by decide) (by have := kKR_168.1 27 _ _ rfl; omega) (by have := kKR_168.1 27 _ _ rfl; omega)
                have b183 : (i5_168 + 1).toInt = i5_168.toInt + 1 := mz_addn 1 1 (by decide) (by have := mz_lo i5_168; omega) (by have := mz_hi i5_168; omega)
                exact (ih168 (i5_168 + 1) i3_168 T_168 M_168 n_168 I_168 h_q0_168 (by have := kKR_168.1 27 _ _ rfl; first | omega | decide | exact fun h9 => absurd (by decide) h9) (by have := kKR_168.1 27 _ _ rfl; first | omega | decide | exact fun h9 => absurd (by decide) h9) (by have := kKR_168.1 27 _ _ rfl; first | omega | decide | exact fun h9 => absurd (by decide) h9) kKR_168 kK8_168 (by have := kKR_168.1 27 _ _ rfl; omega))
              · refine mv_aload_n d_TrustDeskModel_toldOn_94 rfl rfl ?_
                obtain ⟨a185, q184, t_a185⟩ := tm_atR I_168 h_q0_168 (k := 8) rfl
                refine tr_getK q184 d_TrustDeskModel_toldOn_95 f_TrustDeskModel_29_13 ?_
                refine mv_bipush (v := 20) d_TrustDeskModel_toldOn_98 (by decide) ?_
                refine mv_iload d_TrustDeskModel_toldOn_100 rfl ?_
                refine mv_imul d_TrustDeskModel_toldOn_102 ?_
                refine mv_iload d_TrustDeskModel_toldOn_103 rfl ?_
                refine mv_iadd d_TrustDeskModel_toldOn_105 ?_
                have b186 : (20 * v162 : Int32).toInt = (20 * v162.toInt) := mz_mul2 (by decide) rfl (by have := kKR_168.1 27 _ _ rfl; omega) (by have := kKR_168.1 27 _ _ rfl; omega)
                have b187 : ((20 * v162) + i5_168 : Int32).toInt = ((20 * v162.toInt) + i5_168.toInt) := mz_add2 b186 rfl (by have := kKR_168.1 27 _ _ rfl; omega) (by have := kKR_168.1 27 _ _ rfl; omega)
                refine tr_ialdR (o := o0) (k := 8) I_168 q184 t_a185 (by decide) d_TrustDeskModel_toldOn_106 (vp_in_iff.mpr (by have := kKR_168.1 27 _ _ rfl; omega)) (fun v188 e189 => ?_)
                have := kKR_168.a (k := 8) rfl (((20 * v162) + i5_168) : Int32).toNatClampNeg
                have := kK8_168 ((20 * v162) + i5_168).toNatClampNeg (by have := mz_nat9 (i := ((20 * v162) + i5_168)) (by have := kKR_168.1 27 _ _ rfl; omega); have := kKR_168.1 27 _ _ rfl; omega)
                refine mv_istore_n (lv' := [(3, .int v188), (5, .int i5_168), (4, .int v162), (0, .ref o0), (1, .int x1), (2, .int x2)]) d_TrustDeskModel_toldOn_107 rfl (by decide) rfl ?_
                refine mv_iinc (v := (i5_168 + 1)) (lv' := [(5, .int (i5_168 + 1)), (3, .int v188), (4, .int v162), (0, .ref o0), (1, .int x1), (2, .int x2)]) d_TrustDeskModel_toldOn_108 rfl rfl (by decide) rfl ?_
                refine mv_goto (tgt := 59) d_TrustDeskModel_toldOn_111 (by decide) ?_
                have b190 : (i5_168 + 1 : Int32).toInt = (i5_168.toInt + 1) := mz_add2 rfl (by decide) (by have := kKR_168.1 27 _ _ rfl; omega) (by have := kKR_168.1 27 _ _ rfl; omega)
                refine mv_locals (lv' := [(5, .int (i5_168 + 1)), (4, .int v162), (3, .int v188), (0, .ref o0), (1, .int x1), (2, .int x2)]) (by intro q hq; simp only [List.mem_cons, List.not_mem_nil, or_false] at hq; rcases hq with rfl | rfl | rfl | rfl | rfl | rfl <;> rfl) ?_
                have b191 : (i5_168 + 1).toInt = i5_168.toInt + 1 := mz_addn 1 1 (by decide) (by have := mz_lo i5_168; omega) (by have := mz_hi i5_168; omega)
                exact (ih168 (i5_168 + 1) v188 T_168 M_168 n_168 I_168 h_q0_168 (by have := kKR_168.1 27 _ _ rfl; first | omega | decide | exact fun h9 => absurd (by decide) h9) (by have := kKR_168.1 27 _ _ rfl; first | omega | decide | exact fun h9 => absurd (by decide) h9) (by have := kKR_168.1 27 _ _ rfl; first | omega | decide | exact fun h9 => absurd (by decide) h9) kKR_168 kK8_168 (by have := kKR_168.1 27 _ _ rfl; omega))
      have : (0 : Int32).toInt = 0 := by decide
      have : (1 : Int32).toInt = 1 := by decide
      exact mv_less (Nat.zero_le _) (Nat.zero_le _) (L59_168 4294967296 0 1 T158 M156 n157 I160 t165 (by have := R163.1 27 _ _ rfl; first | omega | decide | exact fun h9 => absurd (by decide) h9) (by have := R163.1 27 _ _ rfl; first | omega | decide | exact fun h9 => absurd (by decide) h9) (by have := R163.1 27 _ _ rfl; first | omega | decide | exact fun h9 => absurd (by decide) h9) R163 K167 (by show (2147483647 - (0 : Int) : Int) < _; decide))
  · refine mv_iconst (v := 3) d_TrustDeskModel_toldOn_4 (by decide) ?_
    refine mv_goto (tgt := 48) d_TrustDeskModel_toldOn_5 (by decide) ?_
    refine mv_istore_n (lv' := [(3, .int 3), (0, .ref o0), (1, .int x1), (2, .int x2)]) d_TrustDeskModel_toldOn_48 rfl (by decide) rfl ?_
    refine mv_aload_n d_TrustDeskModel_toldOn_49 rfl rfl ?_
    refine mv_iload_n d_TrustDeskModel_toldOn_50 rfl rfl ?_
    obtain ⟨_, b198, -⟩ := I0.1 _ _ h_o0
    refine mv_callV (kc' := 0) (ks' := 0) (As := [.int x1]) (st9 := [.int x1, .ref o0]) d_TrustDeskModel_toldOn_51 lV_TrustDeskModel_391 b198 rfl (tc_TrustDeskModel_actOn_x (d := d) (x9 := x9) (o0 := o0) (x1 := x1) h_o0 yR I0.start) rfl (Nat.le_of_ble_eq_true rfl) (Nat.le_of_ble_eq_true rfl) (Nat.le_of_ble_eq_true rfl) (hst := rfl) (fun b192r M193 n194 b192 => ?_)
    obtain ⟨T195, J196, v199, rfl, R200, f201⟩ := b192
    have I197 := I0.call J196 (tm_sub (by decide)) (Or.inl rfl)
    have t202 := J196.up h_o0
    have z203 := (rv_c I0 J196 (I0.up h_o0) (k := 27) rfl)
    have K204 : ∀ i : Nat, i < 880 → 0 ≤ ra M193 o0 8 i := (by have e9 := ((sA_c I0 J196 (I0.up h_o0) (by decide +kernel)) : sA [8] _ _ _) 8 rfl; rw [e9]; exact K1)
    refine mv_istore (lv' := [(4, .int v199), (3, .int 3), (0, .ref o0), (1, .int x1), (2, .int x2)]) d_TrustDeskModel_toldOn_54 (by decide) rfl ?_
    refine mv_iconst (v := 0) d_TrustDeskModel_toldOn_56 (by decide) ?_
    refine mv_istore (lv' := [(5, .int 0), (4, .int v199), (3, .int 3), (0, .ref o0), (1, .int x1), (2, .int x2)]) d_TrustDeskModel_toldOn_57 (by decide) rfl ?_
    have L59_205 : ∀ (k : Nat) (i5_205 : Int32) (i3_205 : Int32) (T_205 : tm_H) (M_205 : mj_M) (n_205 : Nat), tm_I tm_FT (tm_in w_TrustDeskModel_toldOn_x) x9 T0 M0 n0 T_205 M_205 n_205 → T_205 o0 = some (0, 13, 0) → 0 ≤ i5_205.toInt → 0 ≤ i3_205.toInt → i3_205.toInt ≤ 720 → (rI M_205 o0) → (∀ i : Nat, i < 880 → 0 ≤ ra M_205 o0 8 i) → 2147483647 - i5_205.toInt < (k : Int) → mj_V g l kY_TrustDeskModel_toldOn (d + 1) 59 [(5, .int i5_205), (4, .int v199), (3, .int i3_205), (0, .ref o0), (1, .int x1), (2, .int x2)] [] M_205 n_205 0 0 (tm_Q tm_FT (tm_in w_TrustDeskModel_toldOn_x) x9 T0 M0 n0 (fun r _ M => ∃ v : Int32, r = some (.int v) ∧ rI M o0 ∧ (0 ≤ v.toInt ∧ v.toInt ≤ 720))) := by
      intro k205
      induction k205 with
      | zero =>
        intro i5_205 i3_205 T_205 M_205 n_205 I_205 h_q0_205 iv0_205 iv1_205 iv2_205 kKR_205 kK8_205 hk205
        have := mz_hi i5_205
        have := kKR_205.1 15 _ _ rfl
        have := kKR_205.1 16 _ _ rfl
        have := kKR_205.1 19 _ _ rfl
        omega
      | succ k205 ih205 =>
        intro i5_205 i3_205 T_205 M_205 n_205 I_205 h_q0_205 iv0_205 iv1_205 iv2_205 kKR_205 kK8_205 hk205
        refine mv_iload d_TrustDeskModel_toldOn_59 rfl ?_
        refine mv_iconst (v := (-1)) d_TrustDeskModel_toldOn_61 (by decide) ?_
        have := mz_hi v199
        refine mv_icmp_eqZ (tgt := 114) (a := v199.toInt) (b := (-1)) d_TrustDeskModel_toldOn_62 (by decide) rfl (by decide) (fun b206 => ?_) (fun b206 => ?_)
        · refine mv_iload_n d_TrustDeskModel_toldOn_114 rfl rfl ?_
          exact mv_iret d_TrustDeskModel_toldOn_115 rfl (by first | rfl | decide) ⟨_, I_205, _, rfl, kKR_205, (by have := kKR_205.1 27 _ _ rfl; omega)⟩
        · refine mv_iload d_TrustDeskModel_toldOn_65 rfl ?_
          refine mv_aload_n d_TrustDeskModel_toldOn_67 rfl rfl ?_
          obtain ⟨a208, q207, t_a208⟩ := tm_atR I_205 h_q0_205 (k := 6) rfl
          refine tr_getK q207 d_TrustDeskModel_toldOn_68 f_TrustDeskModel_23_13 ?_
          refine mv_iload d_TrustDeskModel_toldOn_71 rfl ?_
          refine tr_ialdR (o := o0) (k := 6) I_205 q207 t_a208 (by decide) d_TrustDeskModel_toldOn_73 (vp_in_iff.mpr (by have := kKR_205.1 27 _ _ rfl; omega)) (fun v209 e210 => ?_)
          have := kKR_205.a (k := 6) rfl (v199 : Int32).toNatClampNeg
          have := mz_hi i5_205
          have := mz_hi v209
          refine mv_icmp_geZ (tgt := 114) (a := i5_205.toInt) (b := v209.toInt) d_TrustDeskModel_toldOn_74 (by decide) rfl rfl (fun b211 => ?_) (fun b211 => ?_)
          · refine mv_iload_n d_TrustDeskModel_toldOn_114 rfl rfl ?_
            exact mv_iret d_TrustDeskModel_toldOn_115 rfl (by first | rfl | decide) ⟨_, I_205, _, rfl, kKR_205, (by have := kKR_205.1 27 _ _ rfl; omega)⟩
          · refine mv_aload_n d_TrustDeskModel_toldOn_77 rfl rfl ?_
            obtain ⟨a213, q212, t_a213⟩ := tm_atR I_205 h_q0_205 (k := 7) rfl
            refine tr_getK q212 d_TrustDeskModel_toldOn_78 f_TrustDeskModel_26_13 ?_
            refine mv_bipush (v := 20) d_TrustDeskModel_toldOn_81 (by decide) ?_
            refine mv_iload d_TrustDeskModel_toldOn_83 rfl ?_
            refine mv_imul d_TrustDeskModel_toldOn_85 ?_
            refine mv_iload d_TrustDeskModel_toldOn_86 rfl ?_
            refine mv_iadd d_TrustDeskModel_toldOn_88 ?_
            have b214 : (20 * v199 : Int32).toInt = (20 * v199.toInt) := mz_mul2 (by decide) rfl (by have := kKR_205.1 27 _ _ rfl; omega) (by have := kKR_205.1 27 _ _ rfl; omega)
            have b215 : ((20 * v199) + i5_205 : Int32).toInt = ((20 * v199.toInt) + i5_205.toInt) := mz_add2 b214 rfl (by have := kKR_205.1 27 _ _ rfl; omega) (by have := kKR_205.1 27 _ _ rfl; omega)
            refine tr_ialdR (o := o0) (k := 7) I_205 q212 t_a213 (by decide) d_TrustDeskModel_toldOn_89 (vp_in_iff.mpr (by have := kKR_205.1 27 _ _ rfl; omega)) (fun v216 e217 => ?_)
            refine mv_iload_n d_TrustDeskModel_toldOn_90 rfl rfl ?_
            have := mz_hi v216
            have := mz_hi x2
            refine mv_icmp_neZ (tgt := 108) (a := v216.toInt) (b := x2.toInt) d_TrustDeskModel_toldOn_91 (by decide) rfl rfl (fun b218 => ?_) (fun b218 => ?_)
            · refine mv_iinc (v := (i5_205 + 1)) (lv' := [(5, .int (i5_205 + 1)), (4, .int v199), (3, .int i3_205), (0, .ref o0), (1, .int x1), (2, .int x2)]) d_TrustDeskModel_toldOn_108 rfl rfl (by decide) rfl ?_
              refine mv_goto (tgt := 59) d_TrustDeskModel_toldOn_111 (by decide) ?_
              have b219 : (i5_205 + 1 : Int32).toInt = (i5_205.toInt + 1) := mz_add2 rfl (by decide) (by have := kKR_205.1 27 _ _ rfl; omega) (by have := kKR_205.1 27 _ _ rfl; omega)
              have b220 : (i5_205 + 1).toInt = i5_205.toInt + 1 := mz_addn 1 1 (by decide) (by have := mz_lo i5_205; omega) (by have := mz_hi i5_205; omega)
              exact (ih205 (i5_205 + 1) i3_205 T_205 M_205 n_205 I_205 h_q0_205 (by have := kKR_205.1 27 _ _ rfl; first | omega | decide | exact fun h9 => absurd (by decide) h9) (by have := kKR_205.1 27 _ _ rfl; first | omega | decide | exact fun h9 => absurd (by decide) h9) (by have := kKR_205.1 27 _ _ rfl; first | omega | decide | exact fun h9 => absurd (by decide) h9) kKR_205 kK8_205 (by have := kKR_205.1 27 _ _ rfl; omega))
            · refine mv_aload_n d_TrustDeskModel_toldOn_94 rfl rfl ?_
              obtain ⟨a222, q221, t_a222⟩ := tm_atR I_205 h_q0_205 (k := 8) rfl
              refine tr_getK q221 d_TrustDeskModel_toldOn_95 f_TrustDeskModel_29_13 ?_
              refine mv_bipush (v := 20) d_TrustDeskModel_toldOn_98 (by decide) ?_
              refine mv_iload d_TrustDeskModel_toldOn_100 rfl ?_
              refine mv_imul d_TrustDeskModel_toldOn_102 ?_
              refine mv_iload d_TrustDeskModel_toldOn_103 rfl ?_
              refine mv_iadd d_TrustDeskModel_toldOn_105 ?_
              have b223 : (20 * v199 : Int32).toInt = (20 * v199.toInt) := mz_mul2 (by decide) rfl (by have := kKR_205.1 27 _ _ rfl; omega) (by have := kKR_205.1 27 _ _ rfl; omega)
              have b224 : ((20 * v199) + i5_205 : Int32).toInt = ((20 * v199.toInt) + i5_205.toInt) := mz_add2 b223 rfl (by have := kKR_205.1 27 _ _ rfl; omega) (by have := kKR_205.1 27 _ _ rfl; omega)
              refine tr_ialdR (o := o0) (k := 8) I_205 q221 t_a222 (by decide) d_TrustDeskModel_toldOn_106 (vp_in_iff.mpr (by have := kKR_205.1 27 _ _ rfl; omega)) (fun v225 e226 => ?_)
              have := kKR_205.a (k := 8) rfl (((20 * v199) + i5_205) : Int32).toNatClampNeg
              have := kK8_205 ((20 * v199) + i5_205).toNatClampNeg (by have := mz_nat9 (i := ((20 * v199) + i5_205)) (by have := kKR_205.1 27 _ _ rfl; omega); have := kKR_205.1 27 _ _ rfl; omega)
              refine mv_istore_n (lv' := [(3, .int v225), (5, .int i5_205), (4, .int v199), (0, .ref o0), (1, .int x1), (2, .int x2)]) d_TrustDeskModel_toldOn_107 rfl (by decide) rfl ?_
              refine mv_iinc (v := (i5_205 + 1)) (lv' := [(5, .int (i5_205 + 1)), (3, .int v225), (4, .int v199), (0, .ref o0), (1, .int x1), (2, .int x2)]) d_TrustDeskModel_toldOn_108 rfl rfl (by decide) rfl ?_
              refine mv_goto (tgt := 59) d_TrustDeskModel_toldOn_111 (by decide) ?_
              have b227 : (i5_205 + 1 : Int32).toInt = (i5_205.toInt + 1) := mz_add2 rfl (by decide) (by have := kKR_205.1 27 _ _ rfl; omega) (by have := kKR_205.1 27 _ _ rfl; omega)
              refine mv_locals (lv' := [(5, .int (i5_205 + 1)), (4, .int v199), (3, .int v225), (0, .ref o0), (1, .int x1), (2, .int x2)]) (by intro q hq; simp only [List.mem_cons, List.not_mem_nil, or_false] at hq; rcases hq with rfl | rfl | rfl | rfl | rfl | rfl <;> rfl) ?_
              have b228 : (i5_205 + 1).toInt = i5_205.toInt + 1 := mz_addn 1 1 (by decide) (by have := mz_lo i5_205; omega) (by have := mz_hi i5_205; omega)
              exact (ih205 (i5_205 + 1) v225 T_205 M_205 n_205 I_205 h_q0_205 (by have := kKR_205.1 27 _ _ rfl; first | omega | decide | exact fun h9 => absurd (by decide) h9) (by have := kKR_205.1 27 _ _ rfl; first | omega | decide | exact fun h9 => absurd (by decide) h9) (by have := kKR_205.1 27 _ _ rfl; first | omega | decide | exact fun h9 => absurd (by decide) h9) kKR_205 kK8_205 (by have := kKR_205.1 27 _ _ rfl; omega))
    have : (0 : Int32).toInt = 0 := by decide
    have : (3 : Int32).toInt = 3 := by decide
    exact mv_less (Nat.zero_le _) (Nat.zero_le _) (L59_205 4294967296 0 3 T195 M193 n194 I197 t202 (by have := R200.1 27 _ _ rfl; first | omega | decide | exact fun h9 => absurd (by decide) h9) (by have := R200.1 27 _ _ rfl; first | omega | decide | exact fun h9 => absurd (by decide) h9) (by have := R200.1 27 _ _ rfl; first | omega | decide | exact fun h9 => absurd (by decide) h9) R200 K204 (by show (2147483647 - (0 : Int) : Int) < _; decide))
abbrev kY_TrustDeskModel_holds : mj_Y := (⟨"TrustDeskModel", "holds", "(II)I"⟩, prog_14_method_47_code, 3, (Option.some Jvm.ClassFile.FieldType.int))
theorem d_TrustDeskModel_holds_0 : decode kY_TrustDeskModel_holds.2.1 0 = .ok (.aload_n 0, 1) := by decide +kernel
theorem d_TrustDeskModel_holds_1 : decode kY_TrustDeskModel_holds.2.1 1 = .ok (.iconst 0, 1) := by decide +kernel
theorem d_TrustDeskModel_holds_2 : decode kY_TrustDeskModel_holds.2.1 2 = .ok (.putfield 1, 3) := by decide +kernel
theorem d_TrustDeskModel_holds_5 : decode kY_TrustDeskModel_holds.2.1 5 = .ok (.iload_n 1, 1) := by decide +kernel
theorem d_TrustDeskModel_holds_6 : decode kY_TrustDeskModel_holds.2.1 6 = .ok (.i2l, 1) := by decide +kernel
theorem d_TrustDeskModel_holds_7 : decode kY_TrustDeskModel_holds.2.1 7 = .ok (.lconst 0, 1) := by decide +kernel
theorem d_TrustDeskModel_holds_8 : decode kY_TrustDeskModel_holds.2.1 8 = .ok (.ldc2_w 376, 3) := by decide +kernel
theorem d_TrustDeskModel_holds_11 : decode kY_TrustDeskModel_holds.2.1 11 = .ok (.invokestatic 169, 3) := by decide +kernel
theorem d_TrustDeskModel_holds_14 : decode kY_TrustDeskModel_holds.2.1 14 = .ok (.ifCond .eq 24, 3) := by decide +kernel
theorem d_TrustDeskModel_holds_38 : decode kY_TrustDeskModel_holds.2.1 38 = .ok (.iconst (-1), 1) := by decide +kernel
theorem d_TrustDeskModel_holds_39 : decode kY_TrustDeskModel_holds.2.1 39 = .ok (.ireturn, 1) := by decide +kernel
theorem d_TrustDeskModel_holds_17 : decode kY_TrustDeskModel_holds.2.1 17 = .ok (.iload_n 2, 1) := by decide +kernel
theorem d_TrustDeskModel_holds_18 : decode kY_TrustDeskModel_holds.2.1 18 = .ok (.i2l, 1) := by decide +kernel
theorem d_TrustDeskModel_holds_19 : decode kY_TrustDeskModel_holds.2.1 19 = .ok (.lconst 0, 1) := by decide +kernel
theorem d_TrustDeskModel_holds_20 : decode kY_TrustDeskModel_holds.2.1 20 = .ok (.ldc2_w 394, 3) := by decide +kernel
theorem k_TrustDeskModel_394 : Cond.constantLong "TrustDeskModel" 394 5 ∈ mj_T := (mj_in1 (List.mem_of_getElem? (i := 1780) (by decide +kernel)) rfl)
theorem d_TrustDeskModel_holds_23 : decode kY_TrustDeskModel_holds.2.1 23 = .ok (.invokestatic 169, 3) := by decide +kernel
theorem d_TrustDeskModel_holds_26 : decode kY_TrustDeskModel_holds.2.1 26 = .ok (.ifCond .eq 12, 3) := by decide +kernel
theorem d_TrustDeskModel_holds_29 : decode kY_TrustDeskModel_holds.2.1 29 = .ok (.aload_n 0, 1) := by decide +kernel
theorem d_TrustDeskModel_holds_30 : decode kY_TrustDeskModel_holds.2.1 30 = .ok (.iload_n 1, 1) := by decide +kernel
theorem d_TrustDeskModel_holds_31 : decode kY_TrustDeskModel_holds.2.1 31 = .ok (.iload_n 2, 1) := by decide +kernel
theorem d_TrustDeskModel_holds_32 : decode kY_TrustDeskModel_holds.2.1 32 = .ok (.invokevirtual 396, 3) := by decide +kernel
theorem lV_TrustDeskModel_396 : mj_lV "TrustDeskModel" 396 kY_TrustDeskModel_toldOn 2 := ⟨⟨(mj_in1 (List.mem_of_getElem? (i := 1781) (by decide +kernel)) rfl), (mj_in1 (List.mem_of_getElem? (i := 10) (by decide +kernel)) rfl), (mj_in1 (List.mem_of_getElem? (i := 1784) (by decide +kernel)) rfl), by decide, rfl, by decide⟩, (mj_in1 (List.mem_of_getElem? (i := 1783) (by decide +kernel)) rfl), (mj_in (List.mem_append_left _ (List.mem_of_getElem? (i := 104) (by decide +kernel))) rfl)⟩
theorem d_TrustDeskModel_holds_35 : decode kY_TrustDeskModel_holds.2.1 35 = .ok (.goto 4, 3) := by decide +kernel
def w_TrustDeskModel_holds_x : List Nat := [1300]
set_option maxHeartbeats 100000000 in theorem tc_TrustDeskModel_holds_x {g : mj_G} {l : Launch} {d : Nat} {T0 : tm_H} {M0 : mj_M} {n0 x9 : Nat} {o0 : Nat} {x1 : Int32} {x2 : Int32} (h_o0 : T0 o0 = some (0, 13, 0)) (yR : rI M0 o0) (y8 : ∀ i : Nat, i < 880 → 0 ≤ ra M0 o0 8 i) (I0 : tm_I tm_FT (tm_in w_TrustDeskModel_holds_x) x9 T0 M0 n0 T0 M0 n0) : mj_Met g l kY_TrustDeskModel_holds (d + 2) [.ref o0, .int x1, .int x2] M0 n0 0 0 (tm_Q tm_FT (tm_in w_TrustDeskModel_holds_x) x9 T0 M0 n0 (fun r _ M => ∃ v : Int32, r = some (.int v) ∧ rI M o0)) := by
  refine mj_enter (by decide) (Nat.le_of_ble_eq_true rfl) ?_
  have K1 : ∀ i : Nat, i < 880 → 0 ≤ ra M0 o0 8 i := y8
  refine mv_aload_n d_TrustDeskModel_holds_0 rfl rfl ?_
  refine mv_iconst (v := 0) d_TrustDeskModel_holds_1 (by decide) ?_
  refine tr_putR (k := 0) I0 yR h_o0 rfl ⟨_, rfl⟩ (fun _ h => by cases h) rfl (fun lo hi h => by cases h) (Or.inl (by decide)) d_TrustDeskModel_holds_2 p_TrustDeskModel_1_13 rfl rfl (fun M2 I3 q4 K5 R6 A7 V8 => ?_)
  have K9 : ∀ i : Nat, i < 880 → 0 ≤ ra M2 o0 8 i := (by have e9 := ((sA_f A7 (by decide)) : sA [8] _ _ _) 8 rfl; rw [e9]; exact K1)
  refine mv_iload_n d_TrustDeskModel_holds_5 rfl rfl ?_
  refine mv_i2l (v := x1.toInt64) d_TrustDeskModel_holds_6 rfl ?_
  refine mv_lconst (v := 0) d_TrustDeskModel_holds_7 (by decide) ?_
  refine mv_ldc2 d_TrustDeskModel_holds_8 k_TrustDeskModel_376 ?_
  refine mv_callS (kc1 := 0) (ks1 := 0) (kc' := 0) (ks' := 0) (As := [.long x1.toInt64, .long 0, .long 36000]) (st9 := [.long 36000, .long 0, .long x1.toInt64]) d_TrustDeskModel_holds_11 lS_TrustDeskModel_169 (mj_enter (by decide) (Nat.le_of_ble_eq_true rfl) ?_) rfl (Nat.le_of_ble_eq_true rfl) (Nat.le_of_ble_eq_true rfl) (Nat.le_of_ble_eq_true rfl) (hst := rfl) (fun _ _ _ h => h)
  refine mv_lload_n d_TrustDeskModel_within_0 rfl rfl ?_
  refine mv_lload_n d_TrustDeskModel_within_1 rfl rfl ?_
  refine mv_lltZ (tgt := 17) (a := x1.toInt) (b := 0) d_TrustDeskModel_within_2 d_TrustDeskModel_within_3 (by decide) (mz_wide _) (by decide) (fun b10 => ?_) (fun b10 => ?_)
  · refine mv_iconst (v := 0) d_TrustDeskModel_within_17 (by decide) ?_
    refine mv_iret d_TrustDeskModel_within_18 rfl (by decide) ?_
    refine mv_if_eq_t (tgt := 38) d_TrustDeskModel_holds_14 (by decide) (by decide) ?_
    refine mv_iconst (v := (-1)) d_TrustDeskModel_holds_38 (by decide) ?_
    exact mv_iret d_TrustDeskModel_holds_39 rfl (by first | rfl | decide) ⟨_, I3, _, rfl, R6⟩
  · refine mv_lload_n d_TrustDeskModel_within_6 rfl rfl ?_
    refine mv_lload d_TrustDeskModel_within_7 rfl ?_
    refine mv_lgtZ (tgt := 17) (a := x1.toInt) (b := 36000) d_TrustDeskModel_within_9 d_TrustDeskModel_within_10 (by decide) (mz_wide _) (by decide) (fun b11 => ?_) (fun b11 => ?_)
    · refine mv_iconst (v := 0) d_TrustDeskModel_within_17 (by decide) ?_
      refine mv_iret d_TrustDeskModel_within_18 rfl (by decide) ?_
      refine mv_if_eq_t (tgt := 38) d_TrustDeskModel_holds_14 (by decide) (by decide) ?_
      refine mv_iconst (v := (-1)) d_TrustDeskModel_holds_38 (by decide) ?_
      exact mv_iret d_TrustDeskModel_holds_39 rfl (by first | rfl | decide) ⟨_, I3, _, rfl, R6⟩
    · refine mv_iconst (v := 1) d_TrustDeskModel_within_13 (by decide) ?_
      refine mv_goto (tgt := 18) d_TrustDeskModel_within_14 (by decide) ?_
      refine mv_iret d_TrustDeskModel_within_18 rfl (by decide) ?_
      refine mv_if_eq_f (tgt := 38) d_TrustDeskModel_holds_14 (by decide) (by decide) ?_
      refine mv_iload_n d_TrustDeskModel_holds_17 rfl rfl ?_
      refine mv_i2l (v := x2.toInt64) d_TrustDeskModel_holds_18 rfl ?_
      refine mv_lconst (v := 0) d_TrustDeskModel_holds_19 (by decide) ?_
      refine mv_ldc2 d_TrustDeskModel_holds_20 k_TrustDeskModel_394 ?_
      refine mv_callS (kc1 := 0) (ks1 := 0) (kc' := 0) (ks' := 0) (As := [.long x2.toInt64, .long 0, .long 5]) (st9 := [.long 5, .long 0, .long x2.toInt64]) d_TrustDeskModel_holds_23 lS_TrustDeskModel_169 (mj_enter (by decide) (Nat.le_of_ble_eq_true rfl) ?_) rfl (Nat.le_of_ble_eq_true rfl) (Nat.le_of_ble_eq_true rfl) (Nat.le_of_ble_eq_true rfl) (hst := rfl) (fun _ _ _ h => h)
      refine mv_lload_n d_TrustDeskModel_within_0 rfl rfl ?_
      refine mv_lload_n d_TrustDeskModel_within_1 rfl rfl ?_
      refine mv_lltZ (tgt := 17) (a := x2.toInt) (b := 0) d_TrustDeskModel_within_2 d_TrustDeskModel_within_3 (by decide) (mz_wide _) (by decide) (fun b12 => ?_) (fun b12 => ?_)
      · refine mv_iconst (v := 0) d_TrustDeskModel_within_17 (by decide) ?_
        refine mv_iret d_TrustDeskModel_within_18 rfl (by decide) ?_
        refine mv_if_eq_t (tgt := 38) d_TrustDeskModel_holds_26 (by decide) (by decide) ?_
        refine mv_iconst (v := (-1)) d_TrustDeskModel_holds_38 (by decide) ?_
        exact mv_iret d_TrustDeskModel_holds_39 rfl (by first | rfl | decide) ⟨_, I3, _, rfl, R6⟩
      · refine mv_lload_n d_TrustDeskModel_within_6 rfl rfl ?_
        refine mv_lload d_TrustDeskModel_within_7 rfl ?_
        refine mv_lgtZ (tgt := 17) (a := x2.toInt) (b := 5) d_TrustDeskModel_within_9 d_TrustDeskModel_within_10 (by decide) (mz_wide _) (by decide) (fun b13 => ?_) (fun b13 => ?_)
        · refine mv_iconst (v := 0) d_TrustDeskModel_within_17 (by decide) ?_
          refine mv_iret d_TrustDeskModel_within_18 rfl (by decide) ?_
          refine mv_if_eq_t (tgt := 38) d_TrustDeskModel_holds_26 (by decide) (by decide) ?_
          refine mv_iconst (v := (-1)) d_TrustDeskModel_holds_38 (by decide) ?_
          exact mv_iret d_TrustDeskModel_holds_39 rfl (by first | rfl | decide) ⟨_, I3, _, rfl, R6⟩
        · refine mv_iconst (v := 1) d_TrustDeskModel_within_13 (by decide) ?_
          refine mv_goto (tgt := 18) d_TrustDeskModel_within_14 (by decide) ?_
          refine mv_iret d_TrustDeskModel_within_18 rfl (by decide) ?_
          refine mv_if_eq_f (tgt := 38) d_TrustDeskModel_holds_26 (by decide) (by decide) ?_
          refine mv_aload_n d_TrustDeskModel_holds_29 rfl rfl ?_
          refine mv_iload_n d_TrustDeskModel_holds_30 rfl rfl ?_
          refine mv_iload_n d_TrustDeskModel_holds_31 rfl rfl ?_
          obtain ⟨_, b20, -⟩ := I3.1 _ _ h_o0
          refine mv_callV (kc' := 0) (ks' := 0) (As := [.int x1, .int x2]) (st9 := [.int x2, .int x1, .ref o0]) d_TrustDeskModel_holds_32 lV_TrustDeskModel_396 b20 rfl (tc_TrustDeskModel_toldOn_x (d := d) (x9 := x9) (o0 := o0) (x1 := x1) (x2 := x2) h_o0 R6 K9 I3.start) rfl (Nat.le_of_ble_eq_true rfl) (Nat.le_of_ble_eq_true rfl) (Nat.le_of_ble_eq_true rfl) (hst := rfl) (fun b14r M15 n16 b14 => ?_)
          obtain ⟨T17, J18, v21, rfl, R22, f23⟩ := b14
          have I19 := I3.call J18 (tm_sub (by decide)) (Or.inl rfl)
          have t24 := J18.up h_o0
          have K25 : ∀ i : Nat, i < 880 → 0 ≤ ra M15 o0 8 i := (by have e9 := ((sA_c I3 J18 (I3.up h_o0) (by decide +kernel)) : sA [8] _ _ _) 8 rfl; rw [e9]; exact K9)
          have q26 := J18.keep h_o0 (by decide) q4
          refine mv_goto (tgt := 39) d_TrustDeskModel_holds_35 (by decide) ?_
          exact mv_iret d_TrustDeskModel_holds_39 rfl (by first | rfl | decide) ⟨_, I19, _, rfl, R22⟩
abbrev kY_TrustDeskModel_names : mj_Y := (⟨"TrustDeskModel", "names", "(III)V"⟩, prog_14_method_58_code, 5, (Option.none : Option Jvm.ClassFile.FieldType))
theorem d_TrustDeskModel_names_0 : decode kY_TrustDeskModel_names.2.1 0 = .ok (.iconst 0, 1) := by decide +kernel
theorem d_TrustDeskModel_names_1 : decode kY_TrustDeskModel_names.2.1 1 = .ok (.istore 4, 2) := by decide +kernel
theorem d_TrustDeskModel_names_3 : decode kY_TrustDeskModel_names.2.1 3 = .ok (.iload 4, 2) := by decide +kernel
theorem d_TrustDeskModel_names_5 : decode kY_TrustDeskModel_names.2.1 5 = .ok (.bipush 8, 2) := by decide +kernel
theorem d_TrustDeskModel_names_7 : decode kY_TrustDeskModel_names.2.1 7 = .ok (.if_icmp .ge 24, 3) := by decide +kernel
theorem d_TrustDeskModel_names_31 : decode kY_TrustDeskModel_names.2.1 31 = .ok (.aload_n 0, 1) := by decide +kernel
theorem d_TrustDeskModel_names_32 : decode kY_TrustDeskModel_names.2.1 32 = .ok (.getfield 60, 3) := by decide +kernel
theorem f_TrustDeskModel_60_13 : mj_fl "TrustDeskModel" 60 13 29 := ⟨kR_TrustDeskModel, kF_TrustDeskModel, 72, "TrustDeskModel", rfl, kg_13, by decide, (mj_in1 (List.mem_of_getElem? (i := 1415) (by decide +kernel)) rfl), Or.inl rfl⟩
theorem d_TrustDeskModel_names_35 : decode kY_TrustDeskModel_names.2.1 35 = .ok (.bipush 8, 2) := by decide +kernel
theorem d_TrustDeskModel_names_37 : decode kY_TrustDeskModel_names.2.1 37 = .ok (.aload_n 0, 1) := by decide +kernel
theorem d_TrustDeskModel_names_38 : decode kY_TrustDeskModel_names.2.1 38 = .ok (.iload_n 1, 1) := by decide +kernel
theorem d_TrustDeskModel_names_39 : decode kY_TrustDeskModel_names.2.1 39 = .ok (.iload_n 2, 1) := by decide +kernel
theorem d_TrustDeskModel_names_40 : decode kY_TrustDeskModel_names.2.1 40 = .ok (.iload_n 3, 1) := by decide +kernel
theorem d_TrustDeskModel_names_41 : decode kY_TrustDeskModel_names.2.1 41 = .ok (.invokevirtual 438, 3) := by decide +kernel
abbrev kY_TrustDeskModel_incomeOf : mj_Y := (⟨"TrustDeskModel", "incomeOf", "(III)I"⟩, prog_14_method_57_code, 4, (Option.some Jvm.ClassFile.FieldType.int))
theorem d_TrustDeskModel_incomeOf_0 : decode kY_TrustDeskModel_incomeOf.2.1 0 = .ok (.aload_n 0, 1) := by decide +kernel
theorem d_TrustDeskModel_incomeOf_1 : decode kY_TrustDeskModel_incomeOf.2.1 1 = .ok (.getfield 66, 3) := by decide +kernel
theorem d_TrustDeskModel_incomeOf_4 : decode kY_TrustDeskModel_incomeOf.2.1 4 = .ok (.iload_n 1, 1) := by decide +kernel
theorem d_TrustDeskModel_incomeOf_5 : decode kY_TrustDeskModel_incomeOf.2.1 5 = .ok (.iaload, 1) := by decide +kernel
theorem d_TrustDeskModel_incomeOf_6 : decode kY_TrustDeskModel_incomeOf.2.1 6 = .ok (.aload_n 0, 1) := by decide +kernel
theorem d_TrustDeskModel_incomeOf_7 : decode kY_TrustDeskModel_incomeOf.2.1 7 = .ok (.bipush 6, 2) := by decide +kernel
theorem d_TrustDeskModel_incomeOf_9 : decode kY_TrustDeskModel_incomeOf.2.1 9 = .ok (.iload_n 2, 1) := by decide +kernel
theorem d_TrustDeskModel_incomeOf_10 : decode kY_TrustDeskModel_incomeOf.2.1 10 = .ok (.iload_n 3, 1) := by decide +kernel
theorem d_TrustDeskModel_incomeOf_11 : decode kY_TrustDeskModel_incomeOf.2.1 11 = .ok (.invokevirtual 185, 3) := by decide +kernel
theorem lV_TrustDeskModel_185 : mj_lV "TrustDeskModel" 185 kY_TrustDeskModel_factAt 3 := ⟨⟨(mj_in1 (List.mem_of_getElem? (i := 1623) (by decide +kernel)) rfl), (mj_in1 (List.mem_of_getElem? (i := 10) (by decide +kernel)) rfl), (mj_in1 (List.mem_of_getElem? (i := 1626) (by decide +kernel)) rfl), by decide, rfl, by decide⟩, (mj_in1 (List.mem_of_getElem? (i := 1625) (by decide +kernel)) rfl), (mj_in (List.mem_append_left _ (List.mem_of_getElem? (i := 79) (by decide +kernel))) rfl)⟩
theorem d_TrustDeskModel_incomeOf_14 : decode kY_TrustDeskModel_incomeOf.2.1 14 = .ok (.imul, 1) := by decide +kernel
theorem d_TrustDeskModel_incomeOf_15 : decode kY_TrustDeskModel_incomeOf.2.1 15 = .ok (.aload_n 0, 1) := by decide +kernel
theorem d_TrustDeskModel_incomeOf_16 : decode kY_TrustDeskModel_incomeOf.2.1 16 = .ok (.getfield 69, 3) := by decide +kernel
theorem d_TrustDeskModel_incomeOf_19 : decode kY_TrustDeskModel_incomeOf.2.1 19 = .ok (.iload_n 1, 1) := by decide +kernel
theorem d_TrustDeskModel_incomeOf_20 : decode kY_TrustDeskModel_incomeOf.2.1 20 = .ok (.iaload, 1) := by decide +kernel
theorem d_TrustDeskModel_incomeOf_21 : decode kY_TrustDeskModel_incomeOf.2.1 21 = .ok (.iadd, 1) := by decide +kernel
theorem d_TrustDeskModel_incomeOf_22 : decode kY_TrustDeskModel_incomeOf.2.1 22 = .ok (.ireturn, 1) := by decide +kernel
def w_TrustDeskModel_incomeOf_x : List Nat := []
set_option maxHeartbeats 100000000 in theorem tc_TrustDeskModel_incomeOf_x {g : mj_G} {l : Launch} {d : Nat} {T0 : tm_H} {M0 : mj_M} {n0 x9 : Nat} {o0 : Nat} {x1 : Int32} {x2 : Int32} {x3 : Int32} (h_o0 : T0 o0 = some (0, 13, 0)) (hn0 : 0 ≤ x1.toInt ∧ x1.toInt ≤ 11) (yR : rI M0 o0) (I0 : tm_I tm_FT (tm_in w_TrustDeskModel_incomeOf_x) x9 T0 M0 n0 T0 M0 n0) : mj_Met g l kY_TrustDeskModel_incomeOf (d + 1) [.ref o0, .int x1, .int x2, .int x3] M0 n0 0 0 (tm_Q tm_FT (tm_in w_TrustDeskModel_incomeOf_x) x9 T0 M0 n0 (fun r _ M => ∃ v : Int32, r = some (.int v) ∧ rI M o0 ∧ (0 ≤ v.toInt ∧ v.toInt ≤ 36063999))) := by
  refine mj_enter (by decide) (Nat.le_of_ble_eq_true rfl) ?_
  refine mv_aload_n d_TrustDeskModel_incomeOf_0 rfl rfl ?_
  obtain ⟨a2, q1, t_a2⟩ := tm_atR I0 h_o0 (k := 33) rfl
  refine tr_getK q1 d_TrustDeskModel_incomeOf_1 f_TrustDeskModel_66_13 ?_
  refine mv_iload_n d_TrustDeskModel_incomeOf_4 rfl rfl ?_
  refine tr_ialdR (o := o0) (k := 33) I0 q1 t_a2 (by decide) d_TrustDeskModel_incomeOf_5 (vp_in_iff.mpr (by omega)) (fun v3 e4 => ?_)
  have := yR.a (k := 33) rfl (x1 : Int32).toNatClampNeg
  refine mv_aload_n d_TrustDeskModel_incomeOf_6 rfl rfl ?_
  refine mv_bipush (v := 6) d_TrustDeskModel_incomeOf_7 (by decide) ?_
  refine mv_iload_n d_TrustDeskModel_incomeOf_9 rfl rfl ?_
  refine mv_iload_n d_TrustDeskModel_incomeOf_10 rfl rfl ?_
  obtain ⟨_, b11, -⟩ := I0.1 _ _ h_o0
  have : (6 : Int32).toInt = 6 := by decide
  refine mv_callV (kc' := 0) (ks' := 0) (As := [.int 6, .int x2, .int x3]) (st9 := [.int x3, .int x2, .int 6, .ref o0, .int v3]) d_TrustDeskModel_incomeOf_11 lV_TrustDeskModel_185 b11 rfl (tc_TrustDeskModel_factAt_x (d := d) (x9 := x9) (o0 := o0) (x1 := 6) (x2 := x2) (x3 := x3) h_o0 yR I0.start) rfl (Nat.le_of_ble_eq_true rfl) (Nat.le_of_ble_eq_true rfl) (Nat.le_of_ble_eq_true rfl) (hst := rfl) (fun b5r M6 n7 b5 => ?_)
  obtain ⟨T8, J9, v12, rfl, R13, f14⟩ := b5
  have I10 := I0.call J9 (tm_sub (by decide)) (Or.inl rfl)
  have t15 := J9.up h_o0
  have q16 := J9.keep h_o0 (by decide) q1
  have t17 := J9.up t_a2
  have := mz_mulb (x := v3) (y := v12) (A := 999) (B := 36000) (by omega) (by omega) (by omega) (by omega) (by omega)
  refine mv_imul d_TrustDeskModel_incomeOf_14 ?_
  refine mv_aload_n d_TrustDeskModel_incomeOf_15 rfl rfl ?_
  obtain ⟨a19, q18, t_a19⟩ := tm_atR I10 t15 (k := 34) rfl
  refine tr_getK q18 d_TrustDeskModel_incomeOf_16 f_TrustDeskModel_69_13 ?_
  refine mv_iload_n d_TrustDeskModel_incomeOf_19 rfl rfl ?_
  refine tr_ialdR (o := o0) (k := 34) I10 q18 t_a19 (by decide) d_TrustDeskModel_incomeOf_20 (vp_in_iff.mpr (by omega)) (fun v20 e21 => ?_)
  have := R13.a (k := 34) rfl (x1 : Int32).toNatClampNeg
  refine mv_iadd d_TrustDeskModel_incomeOf_21 ?_
  have b22 : ((v3 * v12) + v20 : Int32).toInt = ((v3 * v12).toInt + v20.toInt) := mz_add2 rfl rfl (by omega) (by omega)
  exact mv_iret d_TrustDeskModel_incomeOf_22 rfl (by first | rfl | decide) ⟨_, I10, _, rfl, R13, (by omega)⟩
theorem lV_TrustDeskModel_438 : mj_lV "TrustDeskModel" 438 kY_TrustDeskModel_incomeOf 3 := ⟨⟨(mj_in1 (List.mem_of_getElem? (i := 1842) (by decide +kernel)) rfl), (mj_in1 (List.mem_of_getElem? (i := 10) (by decide +kernel)) rfl), (mj_in1 (List.mem_of_getElem? (i := 1845) (by decide +kernel)) rfl), by decide, rfl, by decide⟩, (mj_in1 (List.mem_of_getElem? (i := 1844) (by decide +kernel)) rfl), (mj_in (List.mem_append_left _ (List.mem_of_getElem? (i := 114) (by decide +kernel))) rfl)⟩
theorem d_TrustDeskModel_names_44 : decode kY_TrustDeskModel_names.2.1 44 = .ok (.i2l, 1) := by decide +kernel
theorem d_TrustDeskModel_names_45 : decode kY_TrustDeskModel_names.2.1 45 = .ok (.invokestatic 405, 3) := by decide +kernel
abbrev kY_TrustDeskModel_bounded : mj_Y := (⟨"TrustDeskModel", "bounded", "(J)I"⟩, prog_14_method_48_code, 2, (Option.some Jvm.ClassFile.FieldType.int))
theorem d_TrustDeskModel_bounded_0 : decode kY_TrustDeskModel_bounded.2.1 0 = .ok (.lload_n 0, 1) := by decide +kernel
theorem d_TrustDeskModel_bounded_1 : decode kY_TrustDeskModel_bounded.2.1 1 = .ok (.ldc2_w 399, 3) := by decide +kernel
theorem k_TrustDeskModel_399 : Cond.constantLong "TrustDeskModel" 399 1000000000 ∈ mj_T := (mj_in1 (List.mem_of_getElem? (i := 1849) (by decide +kernel)) rfl)
theorem d_TrustDeskModel_bounded_4 : decode kY_TrustDeskModel_bounded.2.1 4 = .ok (.lcmp, 1) := by decide +kernel
theorem d_TrustDeskModel_bounded_5 : decode kY_TrustDeskModel_bounded.2.1 5 = .ok (.ifCond .le 9, 3) := by decide +kernel
theorem d_TrustDeskModel_bounded_14 : decode kY_TrustDeskModel_bounded.2.1 14 = .ok (.lload_n 0, 1) := by decide +kernel
theorem d_TrustDeskModel_bounded_15 : decode kY_TrustDeskModel_bounded.2.1 15 = .ok (.ldc2_w 402, 3) := by decide +kernel
theorem k_TrustDeskModel_402 : Cond.constantLong "TrustDeskModel" 402 (-1000000000) ∈ mj_T := (mj_in1 (List.mem_of_getElem? (i := 1851) (by decide +kernel)) rfl)
theorem d_TrustDeskModel_bounded_18 : decode kY_TrustDeskModel_bounded.2.1 18 = .ok (.lcmp, 1) := by decide +kernel
theorem d_TrustDeskModel_bounded_19 : decode kY_TrustDeskModel_bounded.2.1 19 = .ok (.ifCond .ge 9, 3) := by decide +kernel
theorem d_TrustDeskModel_bounded_28 : decode kY_TrustDeskModel_bounded.2.1 28 = .ok (.lload_n 0, 1) := by decide +kernel
theorem d_TrustDeskModel_bounded_29 : decode kY_TrustDeskModel_bounded.2.1 29 = .ok (.l2i, 1) := by decide +kernel
theorem d_TrustDeskModel_bounded_30 : decode kY_TrustDeskModel_bounded.2.1 30 = .ok (.ireturn, 1) := by decide +kernel
theorem d_TrustDeskModel_bounded_22 : decode kY_TrustDeskModel_bounded.2.1 22 = .ok (.ldc_w 404, 3) := by decide +kernel
theorem k_TrustDeskModel_404 : Cond.constant "TrustDeskModel" 404 (-1000000000) ∈ mj_T := (mj_in1 (List.mem_of_getElem? (i := 1852) (by decide +kernel)) rfl)
theorem d_TrustDeskModel_bounded_25 : decode kY_TrustDeskModel_bounded.2.1 25 = .ok (.goto 5, 3) := by decide +kernel
theorem d_TrustDeskModel_bounded_8 : decode kY_TrustDeskModel_bounded.2.1 8 = .ok (.ldc_w 401, 3) := by decide +kernel
theorem k_TrustDeskModel_401 : Cond.constant "TrustDeskModel" 401 1000000000 ∈ mj_T := (mj_in1 (List.mem_of_getElem? (i := 1850) (by decide +kernel)) rfl)
theorem d_TrustDeskModel_bounded_11 : decode kY_TrustDeskModel_bounded.2.1 11 = .ok (.goto 19, 3) := by decide +kernel
def w_TrustDeskModel_bounded : List Nat := []
theorem tc_TrustDeskModel_bounded {g : mj_G} {l : Launch} {d : Nat} {T0 : tm_H} {M0 : mj_M} {n0 x9 : Nat} {x1 : Int64} (I0 : tm_I tm_FT (tm_in w_TrustDeskModel_bounded) x9 T0 M0 n0 T0 M0 n0) : mj_Met g l kY_TrustDeskModel_bounded d [.long x1] M0 n0 0 0 (tm_Q tm_FT (tm_in w_TrustDeskModel_bounded) x9 T0 M0 n0 (fun r _ _ => ∃ v : Int32, r = some (.int v))) := by
  refine mj_enter (by decide) (Nat.le_of_ble_eq_true rfl) ?_
  refine mv_lload_n d_TrustDeskModel_bounded_0 rfl rfl ?_
  refine mv_ldc2 d_TrustDeskModel_bounded_1 k_TrustDeskModel_399 ?_
  refine mv_lleZ (tgt := 14) (a := x1.toInt) (b := 1000000000) d_TrustDeskModel_bounded_4 d_TrustDeskModel_bounded_5 (by decide) rfl (by decide) (fun b1 => ?_) (fun b1 => ?_)
  · refine mv_lload_n d_TrustDeskModel_bounded_14 rfl rfl ?_
    refine mv_ldc2 d_TrustDeskModel_bounded_15 k_TrustDeskModel_402 ?_
    refine mv_lgeZ (tgt := 28) (a := x1.toInt) (b := (-1000000000)) d_TrustDeskModel_bounded_18 d_TrustDeskModel_bounded_19 (by decide) rfl (by decide) (fun b2 => ?_) (fun b2 => ?_)
    · refine mv_lload_n d_TrustDeskModel_bounded_28 rfl rfl ?_
      refine mv_l2i (v := x1.toInt32) d_TrustDeskModel_bounded_29 rfl ?_
      exact mv_iret d_TrustDeskModel_bounded_30 rfl (by first | rfl | decide) ⟨_, I0, _, rfl⟩
    · refine mv_ldcw d_TrustDeskModel_bounded_22 k_TrustDeskModel_404 ?_
      refine mv_goto (tgt := 30) d_TrustDeskModel_bounded_25 (by decide) ?_
      exact mv_iret d_TrustDeskModel_bounded_30 rfl (by first | rfl | decide) ⟨_, I0, _, rfl⟩
  · refine mv_ldcw d_TrustDeskModel_bounded_8 k_TrustDeskModel_401 ?_
    refine mv_goto (tgt := 30) d_TrustDeskModel_bounded_11 (by decide) ?_
    exact mv_iret d_TrustDeskModel_bounded_30 rfl (by first | rfl | decide) ⟨_, I0, _, rfl⟩
theorem lS_TrustDeskModel_405 : mj_lS "TrustDeskModel" 405 kY_TrustDeskModel_bounded 1 := ⟨⟨(mj_in1 (List.mem_of_getElem? (i := 1846) (by decide +kernel)) rfl), (mj_in1 (List.mem_of_getElem? (i := 10) (by decide +kernel)) rfl), (mj_in1 (List.mem_of_getElem? (i := 1848) (by decide +kernel)) rfl), by decide, rfl, by decide⟩, (mj_in1 (List.mem_of_getElem? (i := 1847) (by decide +kernel)) rfl)⟩
theorem d_TrustDeskModel_names_48 : decode kY_TrustDeskModel_names.2.1 48 = .ok (.iastore, 1) := by decide +kernel
theorem d_TrustDeskModel_names_49 : decode kY_TrustDeskModel_names.2.1 49 = .ok (.aload_n 0, 1) := by decide +kernel
theorem d_TrustDeskModel_names_50 : decode kY_TrustDeskModel_names.2.1 50 = .ok (.getfield 60, 3) := by decide +kernel
theorem d_TrustDeskModel_names_53 : decode kY_TrustDeskModel_names.2.1 53 = .ok (.bipush 9, 2) := by decide +kernel
theorem d_TrustDeskModel_names_55 : decode kY_TrustDeskModel_names.2.1 55 = .ok (.aload_n 0, 1) := by decide +kernel
theorem d_TrustDeskModel_names_56 : decode kY_TrustDeskModel_names.2.1 56 = .ok (.getfield 72, 3) := by decide +kernel
theorem d_TrustDeskModel_names_59 : decode kY_TrustDeskModel_names.2.1 59 = .ok (.iload_n 1, 1) := by decide +kernel
theorem d_TrustDeskModel_names_60 : decode kY_TrustDeskModel_names.2.1 60 = .ok (.laload, 1) := by decide +kernel
theorem d_TrustDeskModel_names_61 : decode kY_TrustDeskModel_names.2.1 61 = .ok (.invokestatic 405, 3) := by decide +kernel
theorem d_TrustDeskModel_names_64 : decode kY_TrustDeskModel_names.2.1 64 = .ok (.iastore, 1) := by decide +kernel
theorem d_TrustDeskModel_names_65 : decode kY_TrustDeskModel_names.2.1 65 = .ok (.aload_n 0, 1) := by decide +kernel
theorem d_TrustDeskModel_names_66 : decode kY_TrustDeskModel_names.2.1 66 = .ok (.getfield 60, 3) := by decide +kernel
theorem d_TrustDeskModel_names_69 : decode kY_TrustDeskModel_names.2.1 69 = .ok (.bipush 10, 2) := by decide +kernel
theorem d_TrustDeskModel_names_71 : decode kY_TrustDeskModel_names.2.1 71 = .ok (.aload_n 0, 1) := by decide +kernel
theorem d_TrustDeskModel_names_72 : decode kY_TrustDeskModel_names.2.1 72 = .ok (.iload_n 1, 1) := by decide +kernel
theorem d_TrustDeskModel_names_73 : decode kY_TrustDeskModel_names.2.1 73 = .ok (.iconst 0, 1) := by decide +kernel
theorem d_TrustDeskModel_names_74 : decode kY_TrustDeskModel_names.2.1 74 = .ok (.invokevirtual 441, 3) := by decide +kernel
abbrev kY_TrustDeskModel_howMany : mj_Y := (⟨"TrustDeskModel", "howMany", "(II)I"⟩, prog_14_method_59_code, 5, (Option.some Jvm.ClassFile.FieldType.int))
theorem d_TrustDeskModel_howMany_0 : decode kY_TrustDeskModel_howMany.2.1 0 = .ok (.iconst 0, 1) := by decide +kernel
theorem d_TrustDeskModel_howMany_1 : decode kY_TrustDeskModel_howMany.2.1 1 = .ok (.istore_n 3, 1) := by decide +kernel
theorem d_TrustDeskModel_howMany_2 : decode kY_TrustDeskModel_howMany.2.1 2 = .ok (.iconst 0, 1) := by decide +kernel
theorem d_TrustDeskModel_howMany_3 : decode kY_TrustDeskModel_howMany.2.1 3 = .ok (.istore 4, 2) := by decide +kernel
theorem d_TrustDeskModel_howMany_5 : decode kY_TrustDeskModel_howMany.2.1 5 = .ok (.iload 4, 2) := by decide +kernel
theorem d_TrustDeskModel_howMany_7 : decode kY_TrustDeskModel_howMany.2.1 7 = .ok (.aload_n 0, 1) := by decide +kernel
theorem d_TrustDeskModel_howMany_8 : decode kY_TrustDeskModel_howMany.2.1 8 = .ok (.getfield 98, 3) := by decide +kernel
theorem d_TrustDeskModel_howMany_11 : decode kY_TrustDeskModel_howMany.2.1 11 = .ok (.iload_n 1, 1) := by decide +kernel
theorem d_TrustDeskModel_howMany_12 : decode kY_TrustDeskModel_howMany.2.1 12 = .ok (.iaload, 1) := by decide +kernel
theorem d_TrustDeskModel_howMany_13 : decode kY_TrustDeskModel_howMany.2.1 13 = .ok (.if_icmp .ge 28, 3) := by decide +kernel
theorem d_TrustDeskModel_howMany_41 : decode kY_TrustDeskModel_howMany.2.1 41 = .ok (.iload_n 3, 1) := by decide +kernel
theorem d_TrustDeskModel_howMany_42 : decode kY_TrustDeskModel_howMany.2.1 42 = .ok (.ireturn, 1) := by decide +kernel
theorem d_TrustDeskModel_howMany_16 : decode kY_TrustDeskModel_howMany.2.1 16 = .ok (.aload_n 0, 1) := by decide +kernel
theorem d_TrustDeskModel_howMany_17 : decode kY_TrustDeskModel_howMany.2.1 17 = .ok (.getfield 107, 3) := by decide +kernel
theorem d_TrustDeskModel_howMany_20 : decode kY_TrustDeskModel_howMany.2.1 20 = .ok (.bipush 80, 2) := by decide +kernel
theorem d_TrustDeskModel_howMany_22 : decode kY_TrustDeskModel_howMany.2.1 22 = .ok (.iload_n 1, 1) := by decide +kernel
theorem d_TrustDeskModel_howMany_23 : decode kY_TrustDeskModel_howMany.2.1 23 = .ok (.imul, 1) := by decide +kernel
theorem d_TrustDeskModel_howMany_24 : decode kY_TrustDeskModel_howMany.2.1 24 = .ok (.iload 4, 2) := by decide +kernel
theorem d_TrustDeskModel_howMany_26 : decode kY_TrustDeskModel_howMany.2.1 26 = .ok (.iadd, 1) := by decide +kernel
theorem d_TrustDeskModel_howMany_27 : decode kY_TrustDeskModel_howMany.2.1 27 = .ok (.iaload, 1) := by decide +kernel
theorem d_TrustDeskModel_howMany_28 : decode kY_TrustDeskModel_howMany.2.1 28 = .ok (.iload_n 2, 1) := by decide +kernel
theorem d_TrustDeskModel_howMany_29 : decode kY_TrustDeskModel_howMany.2.1 29 = .ok (.if_icmp .ne 6, 3) := by decide +kernel
theorem d_TrustDeskModel_howMany_35 : decode kY_TrustDeskModel_howMany.2.1 35 = .ok (.iinc 4 1, 3) := by decide +kernel
theorem d_TrustDeskModel_howMany_38 : decode kY_TrustDeskModel_howMany.2.1 38 = .ok (.goto (-33), 3) := by decide +kernel
theorem d_TrustDeskModel_howMany_32 : decode kY_TrustDeskModel_howMany.2.1 32 = .ok (.iinc 3 1, 3) := by decide +kernel
def w_TrustDeskModel_howMany_x : List Nat := []
set_option maxHeartbeats 100000000 in theorem tc_TrustDeskModel_howMany_x {g : mj_G} {l : Launch} {d : Nat} {T0 : tm_H} {M0 : mj_M} {n0 x9 : Nat} {o0 : Nat} {x1 : Int32} {x2 : Int32} (h_o0 : T0 o0 = some (0, 13, 0)) (hn0 : 0 ≤ x1.toInt ∧ x1.toInt ≤ 11) (yR : rI M0 o0) (I0 : tm_I tm_FT (tm_in w_TrustDeskModel_howMany_x) x9 T0 M0 n0 T0 M0 n0) : mj_Met g l kY_TrustDeskModel_howMany d [.ref o0, .int x1, .int x2] M0 n0 0 0 (tm_Q tm_FT (tm_in w_TrustDeskModel_howMany_x) x9 T0 M0 n0 (fun r _ M => ∃ v : Int32, r = some (.int v) ∧ rI M o0)) := by
  refine mj_enter (by decide) (Nat.le_of_ble_eq_true rfl) ?_
  refine mv_iconst (v := 0) d_TrustDeskModel_howMany_0 (by decide) ?_
  refine mv_istore_n (lv' := [(3, .int 0), (0, .ref o0), (1, .int x1), (2, .int x2)]) d_TrustDeskModel_howMany_1 rfl (by decide) rfl ?_
  refine mv_iconst (v := 0) d_TrustDeskModel_howMany_2 (by decide) ?_
  refine mv_istore (lv' := [(4, .int 0), (3, .int 0), (0, .ref o0), (1, .int x1), (2, .int x2)]) d_TrustDeskModel_howMany_3 (by decide) rfl ?_
  have L5_1 : ∀ (k : Nat) (i4_1 : Int32) (i3_1 : Int32) (T_1 : tm_H) (M_1 : mj_M) (n_1 : Nat), tm_I tm_FT (tm_in w_TrustDeskModel_howMany_x) x9 T0 M0 n0 T_1 M_1 n_1 → T_1 o0 = some (0, 13, 0) → 0 ≤ i4_1.toInt → (rI M_1 o0) → 2147483647 - i4_1.toInt < (k : Int) → mj_V g l kY_TrustDeskModel_howMany d 5 [(4, .int i4_1), (3, .int i3_1), (0, .ref o0), (1, .int x1), (2, .int x2)] [] M_1 n_1 0 0 (tm_Q tm_FT (tm_in w_TrustDeskModel_howMany_x) x9 T0 M0 n0 (fun r _ M => ∃ v : Int32, r = some (.int v) ∧ rI M o0)) := by
    intro k1
    induction k1 with
    | zero =>
      intro i4_1 i3_1 T_1 M_1 n_1 I_1 h_q0_1 iv0_1 kKR_1 hk1
      have := mz_hi i4_1
      have := kKR_1.1 15 _ _ rfl
      have := kKR_1.1 16 _ _ rfl
      have := kKR_1.1 19 _ _ rfl
      omega
    | succ k1 ih1 =>
      intro i4_1 i3_1 T_1 M_1 n_1 I_1 h_q0_1 iv0_1 kKR_1 hk1
      refine mv_iload d_TrustDeskModel_howMany_5 rfl ?_
      refine mv_aload_n d_TrustDeskModel_howMany_7 rfl rfl ?_
      obtain ⟨a3, q2, t_a3⟩ := tm_atR I_1 h_q0_1 (k := 43) rfl
      refine tr_getK q2 d_TrustDeskModel_howMany_8 f_TrustDeskModel_98_13 ?_
      refine mv_iload_n d_TrustDeskModel_howMany_11 rfl rfl ?_
      refine tr_ialdR (o := o0) (k := 43) I_1 q2 t_a3 (by decide) d_TrustDeskModel_howMany_12 (vp_in_iff.mpr (by omega)) (fun v4 e5 => ?_)
      have := kKR_1.a (k := 43) rfl (x1 : Int32).toNatClampNeg
      have := mz_hi i4_1
      have := mz_hi v4
      refine mv_icmp_geZ (tgt := 41) (a := i4_1.toInt) (b := v4.toInt) d_TrustDeskModel_howMany_13 (by decide) rfl rfl (fun b6 => ?_) (fun b6 => ?_)
      · refine mv_iload_n d_TrustDeskModel_howMany_41 rfl rfl ?_
        exact mv_iret d_TrustDeskModel_howMany_42 rfl (by first | rfl | decide) ⟨_, I_1, _, rfl, kKR_1⟩
      · refine mv_aload_n d_TrustDeskModel_howMany_16 rfl rfl ?_
        obtain ⟨a8, q7, t_a8⟩ := tm_atR I_1 h_q0_1 (k := 46) rfl
        refine tr_getK q7 d_TrustDeskModel_howMany_17 f_TrustDeskModel_107_13 ?_
        refine mv_bipush (v := 80) d_TrustDeskModel_howMany_20 (by decide) ?_
        refine mv_iload_n d_TrustDeskModel_howMany_22 rfl rfl ?_
        refine mv_imul d_TrustDeskModel_howMany_23 ?_
        refine mv_iload d_TrustDeskModel_howMany_24 rfl ?_
        refine mv_iadd d_TrustDeskModel_howMany_26 ?_
        have b9 : (80 * x1 : Int32).toInt = (80 * x1.toInt) := mz_mul2 (by decide) rfl (by omega) (by omega)
        have b10 : ((80 * x1) + i4_1 : Int32).toInt = ((80 * x1.toInt) + i4_1.toInt) := mz_add2 b9 rfl (by omega) (by omega)
        refine tr_ialdR (o := o0) (k := 46) I_1 q7 t_a8 (by decide) d_TrustDeskModel_howMany_27 (vp_in_iff.mpr (by omega)) (fun v11 e12 => ?_)
        refine mv_iload_n d_TrustDeskModel_howMany_28 rfl rfl ?_
        have := mz_hi v11
        have := mz_hi x2
        refine mv_icmp_neZ (tgt := 35) (a := v11.toInt) (b := x2.toInt) d_TrustDeskModel_howMany_29 (by decide) rfl rfl (fun b13 => ?_) (fun b13 => ?_)
        · refine mv_iinc (v := (i4_1 + 1)) (lv' := [(4, .int (i4_1 + 1)), (3, .int i3_1), (0, .ref o0), (1, .int x1), (2, .int x2)]) d_TrustDeskModel_howMany_35 rfl rfl (by decide) rfl ?_
          refine mv_goto (tgt := 5) d_TrustDeskModel_howMany_38 (by decide) ?_
          have b14 : (i4_1 + 1 : Int32).toInt = (i4_1.toInt + 1) := mz_add2 rfl (by decide) (by omega) (by omega)
          have b15 : (i4_1 + 1).toInt = i4_1.toInt + 1 := mz_addn 1 1 (by decide) (by have := mz_lo i4_1; omega) (by have := mz_hi i4_1; omega)
          exact (ih1 (i4_1 + 1) i3_1 T_1 M_1 n_1 I_1 h_q0_1 (by first | omega | decide | exact fun h9 => absurd (by decide) h9) kKR_1 (by omega))
        · refine mv_iinc (v := (i3_1 + 1)) (lv' := [(3, .int (i3_1 + 1)), (4, .int i4_1), (0, .ref o0), (1, .int x1), (2, .int x2)]) d_TrustDeskModel_howMany_32 rfl rfl (by decide) rfl ?_
          refine mv_iinc (v := (i4_1 + 1)) (lv' := [(4, .int (i4_1 + 1)), (3, .int (i3_1 + 1)), (0, .ref o0), (1, .int x1), (2, .int x2)]) d_TrustDeskModel_howMany_35 rfl rfl (by decide) rfl ?_
          refine mv_goto (tgt := 5) d_TrustDeskModel_howMany_38 (by decide) ?_
          have b16 : (i4_1 + 1 : Int32).toInt = (i4_1.toInt + 1) := mz_add2 rfl (by decide) (by omega) (by omega)
          have b17 : (i4_1 + 1).toInt = i4_1.toInt + 1 := mz_addn 1 1 (by decide) (by have := mz_lo i4_1; omega) (by have := mz_hi i4_1; omega)
          exact (ih1 (i4_1 + 1) (i3_1 + 1) T_1 M_1 n_1 I_1 h_q0_1 (by first | omega | decide | exact fun h9 => absurd (by decide) h9) kKR_1 (by omega))
  have : (0 : Int32).toInt = 0 := by decide
  exact mv_less (Nat.zero_le _) (Nat.zero_le _) (L5_1 4294967296 0 0 T0 M0 n0 I0 h_o0 (by first | omega | decide | exact fun h9 => absurd (by decide) h9) yR (by show (2147483647 - (0 : Int) : Int) < _; decide))
theorem lV_TrustDeskModel_441 : mj_lV "TrustDeskModel" 441 kY_TrustDeskModel_howMany 2 := ⟨⟨(mj_in1 (List.mem_of_getElem? (i := 1853) (by decide +kernel)) rfl), (mj_in1 (List.mem_of_getElem? (i := 10) (by decide +kernel)) rfl), (mj_in1 (List.mem_of_getElem? (i := 1856) (by decide +kernel)) rfl), by decide, rfl, by decide⟩, (mj_in1 (List.mem_of_getElem? (i := 1855) (by decide +kernel)) rfl), (mj_in (List.mem_append_left _ (List.mem_of_getElem? (i := 115) (by decide +kernel))) rfl)⟩
theorem d_TrustDeskModel_names_77 : decode kY_TrustDeskModel_names.2.1 77 = .ok (.iastore, 1) := by decide +kernel
theorem d_TrustDeskModel_names_78 : decode kY_TrustDeskModel_names.2.1 78 = .ok (.aload_n 0, 1) := by decide +kernel
theorem d_TrustDeskModel_names_79 : decode kY_TrustDeskModel_names.2.1 79 = .ok (.getfield 60, 3) := by decide +kernel
theorem d_TrustDeskModel_names_82 : decode kY_TrustDeskModel_names.2.1 82 = .ok (.bipush 11, 2) := by decide +kernel
theorem d_TrustDeskModel_names_84 : decode kY_TrustDeskModel_names.2.1 84 = .ok (.aload_n 0, 1) := by decide +kernel
theorem d_TrustDeskModel_names_85 : decode kY_TrustDeskModel_names.2.1 85 = .ok (.iload_n 1, 1) := by decide +kernel
theorem d_TrustDeskModel_names_86 : decode kY_TrustDeskModel_names.2.1 86 = .ok (.iconst 1, 1) := by decide +kernel
theorem d_TrustDeskModel_names_87 : decode kY_TrustDeskModel_names.2.1 87 = .ok (.invokevirtual 441, 3) := by decide +kernel
theorem d_TrustDeskModel_names_90 : decode kY_TrustDeskModel_names.2.1 90 = .ok (.iastore, 1) := by decide +kernel
theorem d_TrustDeskModel_names_91 : decode kY_TrustDeskModel_names.2.1 91 = .ok (.aload_n 0, 1) := by decide +kernel
theorem d_TrustDeskModel_names_92 : decode kY_TrustDeskModel_names.2.1 92 = .ok (.getfield 60, 3) := by decide +kernel
theorem d_TrustDeskModel_names_95 : decode kY_TrustDeskModel_names.2.1 95 = .ok (.bipush 12, 2) := by decide +kernel
theorem d_TrustDeskModel_names_97 : decode kY_TrustDeskModel_names.2.1 97 = .ok (.aload_n 0, 1) := by decide +kernel
theorem d_TrustDeskModel_names_98 : decode kY_TrustDeskModel_names.2.1 98 = .ok (.getfield 76, 3) := by decide +kernel
theorem d_TrustDeskModel_names_101 : decode kY_TrustDeskModel_names.2.1 101 = .ok (.iload_n 1, 1) := by decide +kernel
theorem d_TrustDeskModel_names_102 : decode kY_TrustDeskModel_names.2.1 102 = .ok (.iaload, 1) := by decide +kernel
theorem d_TrustDeskModel_names_103 : decode kY_TrustDeskModel_names.2.1 103 = .ok (.invokestatic 444, 3) := by decide +kernel
abbrev kY_TrustDeskModel_size : mj_Y := (⟨"TrustDeskModel", "size", "(I)I"⟩, prog_14_method_3_code, 3, (Option.some Jvm.ClassFile.FieldType.int))
theorem d_TrustDeskModel_size_0 : decode kY_TrustDeskModel_size.2.1 0 = .ok (.iconst 0, 1) := by decide +kernel
theorem d_TrustDeskModel_size_1 : decode kY_TrustDeskModel_size.2.1 1 = .ok (.istore_n 1, 1) := by decide +kernel
theorem d_TrustDeskModel_size_2 : decode kY_TrustDeskModel_size.2.1 2 = .ok (.iconst 0, 1) := by decide +kernel
theorem d_TrustDeskModel_size_3 : decode kY_TrustDeskModel_size.2.1 3 = .ok (.istore_n 2, 1) := by decide +kernel
theorem d_TrustDeskModel_size_4 : decode kY_TrustDeskModel_size.2.1 4 = .ok (.iload_n 2, 1) := by decide +kernel
theorem d_TrustDeskModel_size_5 : decode kY_TrustDeskModel_size.2.1 5 = .ok (.bipush 12, 2) := by decide +kernel
theorem d_TrustDeskModel_size_7 : decode kY_TrustDeskModel_size.2.1 7 = .ok (.if_icmp .ge 17, 3) := by decide +kernel
theorem d_TrustDeskModel_size_24 : decode kY_TrustDeskModel_size.2.1 24 = .ok (.iload_n 1, 1) := by decide +kernel
theorem d_TrustDeskModel_size_25 : decode kY_TrustDeskModel_size.2.1 25 = .ok (.ireturn, 1) := by decide +kernel
theorem d_TrustDeskModel_size_10 : decode kY_TrustDeskModel_size.2.1 10 = .ok (.iload_n 1, 1) := by decide +kernel
theorem d_TrustDeskModel_size_11 : decode kY_TrustDeskModel_size.2.1 11 = .ok (.iload_n 0, 1) := by decide +kernel
theorem d_TrustDeskModel_size_12 : decode kY_TrustDeskModel_size.2.1 12 = .ok (.iload_n 2, 1) := by decide +kernel
theorem d_TrustDeskModel_size_13 : decode kY_TrustDeskModel_size.2.1 13 = .ok (.ishr, 1) := by decide +kernel
theorem d_TrustDeskModel_size_14 : decode kY_TrustDeskModel_size.2.1 14 = .ok (.iconst 1, 1) := by decide +kernel
theorem d_TrustDeskModel_size_15 : decode kY_TrustDeskModel_size.2.1 15 = .ok (.iand, 1) := by decide +kernel
theorem d_TrustDeskModel_size_16 : decode kY_TrustDeskModel_size.2.1 16 = .ok (.iadd, 1) := by decide +kernel
theorem d_TrustDeskModel_size_17 : decode kY_TrustDeskModel_size.2.1 17 = .ok (.istore_n 1, 1) := by decide +kernel
theorem d_TrustDeskModel_size_18 : decode kY_TrustDeskModel_size.2.1 18 = .ok (.iinc 2 1, 3) := by decide +kernel
theorem d_TrustDeskModel_size_21 : decode kY_TrustDeskModel_size.2.1 21 = .ok (.goto (-17), 3) := by decide +kernel
def w_TrustDeskModel_size : List Nat := []
theorem tc_TrustDeskModel_size {g : mj_G} {l : Launch} {d : Nat} {T0 : tm_H} {M0 : mj_M} {n0 x9 : Nat} {x1 : Int32} (I0 : tm_I tm_FT (tm_in w_TrustDeskModel_size) x9 T0 M0 n0 T0 M0 n0) : mj_Met g l kY_TrustDeskModel_size d [.int x1] M0 n0 0 0 (tm_Q tm_FT (tm_in w_TrustDeskModel_size) x9 T0 M0 n0 (fun r _ _ => ∃ v : Int32, r = some (.int v))) := by
  refine mj_enter (by decide) (Nat.le_of_ble_eq_true rfl) ?_
  refine mv_iconst (v := 0) d_TrustDeskModel_size_0 (by decide) ?_
  refine mv_istore_n (lv' := [(1, .int 0), (0, .int x1)]) d_TrustDeskModel_size_1 rfl (by decide) rfl ?_
  refine mv_iconst (v := 0) d_TrustDeskModel_size_2 (by decide) ?_
  refine mv_istore_n (lv' := [(2, .int 0), (1, .int 0), (0, .int x1)]) d_TrustDeskModel_size_3 rfl (by decide) rfl ?_
  have L4_1 : ∀ (k : Nat) (i2_1 : Int32) (i1_1 : Int32) (T_1 : tm_H) (M_1 : mj_M) (n_1 : Nat), tm_I tm_FT (tm_in w_TrustDeskModel_size) x9 T0 M0 n0 T_1 M_1 n_1 → 0 ≤ i2_1.toInt → 2147483647 - i2_1.toInt < (k : Int) → mj_V g l kY_TrustDeskModel_size d 4 [(2, .int i2_1), (1, .int i1_1), (0, .int x1)] [] M_1 n_1 0 0 (tm_Q tm_FT (tm_in w_TrustDeskModel_size) x9 T0 M0 n0 (fun r _ _ => ∃ v : Int32, r = some (.int v))) := by
    intro k1
    induction k1 with
    | zero =>
      intro i2_1 i1_1 T_1 M_1 n_1 I_1 iv0_1 hk1
      have := mz_hi i2_1
      omega
    | succ k1 ih1 =>
      intro i2_1 i1_1 T_1 M_1 n_1 I_1 iv0_1 hk1
      refine mv_iload_n d_TrustDeskModel_size_4 rfl rfl ?_
      refine mv_bipush (v := 12) d_TrustDeskModel_size_5 (by decide) ?_
      have := mz_hi i2_1
      refine mv_icmp_geZ (tgt := 24) (a := i2_1.toInt) (b := 12) d_TrustDeskModel_size_7 (by decide) rfl (by decide) (fun b2 => ?_) (fun b2 => ?_)
      · refine mv_iload_n d_TrustDeskModel_size_24 rfl rfl ?_
        exact mv_iret d_TrustDeskModel_size_25 rfl (by first | rfl | decide) ⟨_, I_1, _, rfl⟩
      · refine mv_iload_n d_TrustDeskModel_size_10 rfl rfl ?_
        refine mv_iload_n d_TrustDeskModel_size_11 rfl rfl ?_
        refine mv_iload_n d_TrustDeskModel_size_12 rfl rfl ?_
        refine mv_ishr d_TrustDeskModel_size_13 ?_
        refine mv_iconst (v := 1) d_TrustDeskModel_size_14 (by decide) ?_
        refine mv_iand d_TrustDeskModel_size_15 ?_
        refine mv_iadd d_TrustDeskModel_size_16 ?_
        refine mv_istore_n (lv' := [(1, .int (i1_1 + ((x1 >>> (i2_1 &&& 31)) &&& 1))), (2, .int i2_1), (0, .int x1)]) d_TrustDeskModel_size_17 rfl (by decide) rfl ?_
        refine mv_iinc (v := (i2_1 + 1)) (lv' := [(2, .int (i2_1 + 1)), (1, .int (i1_1 + ((x1 >>> (i2_1 &&& 31)) &&& 1))), (0, .int x1)]) d_TrustDeskModel_size_18 rfl rfl (by decide) rfl ?_
        refine mv_goto (tgt := 4) d_TrustDeskModel_size_21 (by decide) ?_
        have b3 : (i2_1 + 1).toInt = i2_1.toInt + 1 := mz_addn 1 1 (by decide) (by have := mz_lo i2_1; omega) (by have := mz_hi i2_1; omega)
        exact (ih1 (i2_1 + 1) (i1_1 + ((x1 >>> (i2_1 &&& 31)) &&& 1)) T_1 M_1 n_1 I_1 (by first | omega | decide) (by omega))
  exact mv_less (Nat.zero_le _) (Nat.zero_le _) (L4_1 4294967296 0 0 T0 M0 n0 I0 (by first | omega | decide) (by show (2147483647 - (0 : Int) : Int) < _; decide))
theorem lS_TrustDeskModel_444 : mj_lS "TrustDeskModel" 444 kY_TrustDeskModel_size 1 := ⟨⟨(mj_in1 (List.mem_of_getElem? (i := 1857) (by decide +kernel)) rfl), (mj_in1 (List.mem_of_getElem? (i := 10) (by decide +kernel)) rfl), (mj_in1 (List.mem_of_getElem? (i := 1859) (by decide +kernel)) rfl), by decide, rfl, by decide⟩, (mj_in1 (List.mem_of_getElem? (i := 1858) (by decide +kernel)) rfl)⟩
theorem d_TrustDeskModel_names_106 : decode kY_TrustDeskModel_names.2.1 106 = .ok (.iastore, 1) := by decide +kernel
theorem d_TrustDeskModel_names_107 : decode kY_TrustDeskModel_names.2.1 107 = .ok (.return_, 1) := by decide +kernel
theorem d_TrustDeskModel_names_10 : decode kY_TrustDeskModel_names.2.1 10 = .ok (.aload_n 0, 1) := by decide +kernel
theorem d_TrustDeskModel_names_11 : decode kY_TrustDeskModel_names.2.1 11 = .ok (.getfield 60, 3) := by decide +kernel
theorem d_TrustDeskModel_names_14 : decode kY_TrustDeskModel_names.2.1 14 = .ok (.iload 4, 2) := by decide +kernel
theorem d_TrustDeskModel_names_16 : decode kY_TrustDeskModel_names.2.1 16 = .ok (.aload_n 0, 1) := by decide +kernel
theorem d_TrustDeskModel_names_17 : decode kY_TrustDeskModel_names.2.1 17 = .ok (.iload 4, 2) := by decide +kernel
theorem d_TrustDeskModel_names_19 : decode kY_TrustDeskModel_names.2.1 19 = .ok (.iload_n 2, 1) := by decide +kernel
theorem d_TrustDeskModel_names_20 : decode kY_TrustDeskModel_names.2.1 20 = .ok (.iload_n 3, 1) := by decide +kernel
theorem d_TrustDeskModel_names_21 : decode kY_TrustDeskModel_names.2.1 21 = .ok (.invokevirtual 185, 3) := by decide +kernel
theorem d_TrustDeskModel_names_24 : decode kY_TrustDeskModel_names.2.1 24 = .ok (.iastore, 1) := by decide +kernel
theorem d_TrustDeskModel_names_25 : decode kY_TrustDeskModel_names.2.1 25 = .ok (.iinc 4 1, 3) := by decide +kernel
theorem d_TrustDeskModel_names_28 : decode kY_TrustDeskModel_names.2.1 28 = .ok (.goto (-25), 3) := by decide +kernel
def w_TrustDeskModel_names_x : List Nat := [20029]
set_option maxHeartbeats 100000000 in theorem tc_TrustDeskModel_names_x {g : mj_G} {l : Launch} {d : Nat} {T0 : tm_H} {M0 : mj_M} {n0 x9 : Nat} {o0 : Nat} {x1 : Int32} {x2 : Int32} {x3 : Int32} (h_o0 : T0 o0 = some (0, 13, 0)) (hn0 : 0 ≤ x1.toInt ∧ x1.toInt ≤ 11) (yR : rI M0 o0) (I0 : tm_I tm_FT (tm_in w_TrustDeskModel_names_x) x9 T0 M0 n0 T0 M0 n0) : mj_Met g l kY_TrustDeskModel_names (d + 2) [.ref o0, .int x1, .int x2, .int x3] M0 n0 0 0 (tm_Q tm_FT (tm_in w_TrustDeskModel_names_x) x9 T0 M0 n0 (fun r _ M => r = none ∧ rI M o0)) := by
  refine mj_enter (by decide) (Nat.le_of_ble_eq_true rfl) ?_
  refine mv_iconst (v := 0) d_TrustDeskModel_names_0 (by decide) ?_
  refine mv_istore (lv' := [(4, .int 0), (0, .ref o0), (1, .int x1), (2, .int x2), (3, .int x3)]) d_TrustDeskModel_names_1 (by decide) rfl ?_
  have L3_1 : ∀ (k : Nat) (i4_1 : Int32) (T_1 : tm_H) (M_1 : mj_M) (n_1 : Nat), tm_I tm_FT (tm_in w_TrustDeskModel_names_x) x9 T0 M0 n0 T_1 M_1 n_1 → T_1 o0 = some (0, 13, 0) → 0 ≤ i4_1.toInt → (rI M_1 o0) → 2147483647 - i4_1.toInt < (k : Int) → mj_V g l kY_TrustDeskModel_names (d + 2) 3 [(4, .int i4_1), (0, .ref o0), (1, .int x1), (2, .int x2), (3, .int x3)] [] M_1 n_1 0 0 (tm_Q tm_FT (tm_in w_TrustDeskModel_names_x) x9 T0 M0 n0 (fun r _ M => r = none ∧ rI M o0)) := by
    intro k1
    induction k1 with
    | zero =>
      intro i4_1 T_1 M_1 n_1 I_1 h_q0_1 iv0_1 kKR_1 hk1
      have := mz_hi i4_1
      have := kKR_1.1 15 _ _ rfl
      have := kKR_1.1 16 _ _ rfl
      have := kKR_1.1 19 _ _ rfl
      omega
    | succ k1 ih1 =>
      intro i4_1 T_1 M_1 n_1 I_1 h_q0_1 iv0_1 kKR_1 hk1
      refine mv_iload d_TrustDeskModel_names_3 rfl ?_
      refine mv_bipush (v := 8) d_TrustDeskModel_names_5 (by decide) ?_
      have := mz_hi i4_1
      refine mv_icmp_geZ (tgt := 31) (a := i4_1.toInt) (b := 8) d_TrustDeskModel_names_7 (by decide) rfl (by decide) (fun b2 => ?_) (fun b2 => ?_)
      · refine mv_aload_n d_TrustDeskModel_names_31 rfl rfl ?_
        obtain ⟨a4, q3, t_a4⟩ := tm_atR I_1 h_q0_1 (k := 29) rfl
        refine tr_getK q3 d_TrustDeskModel_names_32 f_TrustDeskModel_60_13 ?_
        refine mv_bipush (v := 8) d_TrustDeskModel_names_35 (by decide) ?_
        refine mv_aload_n d_TrustDeskModel_names_37 rfl rfl ?_
        refine mv_iload_n d_TrustDeskModel_names_38 rfl rfl ?_
        refine mv_iload_n d_TrustDeskModel_names_39 rfl rfl ?_
        refine mv_iload_n d_TrustDeskModel_names_40 rfl rfl ?_
        obtain ⟨_, b11, -⟩ := I_1.1 _ _ h_q0_1
        refine mv_callV (kc' := 0) (ks' := 0) (As := [.int x1, .int x2, .int x3]) (st9 := [.int x3, .int x2, .int x1, .ref o0, .int 8, .ref a4]) d_TrustDeskModel_names_41 lV_TrustDeskModel_438 b11 rfl (tc_TrustDeskModel_incomeOf_x (d := d) (x9 := x9) (o0 := o0) (x1 := x1) (x2 := x2) (x3 := x3) h_q0_1 (by omega) kKR_1 I_1.start) rfl (Nat.le_of_ble_eq_true rfl) (Nat.le_of_ble_eq_true rfl) (Nat.le_of_ble_eq_true rfl) (hst := rfl) (fun b5r M6 n7 b5 => ?_)
        obtain ⟨T8, J9, v12, rfl, R13, f14⟩ := b5
        have I10 := I_1.call J9 (tm_sub (by decide)) (Or.inl rfl)
        have t15 := J9.up h_q0_1
        have t16 := J9.up t_a4
        have q17 := J9.keep h_q0_1 (by decide) q3
        refine mv_i2l (v := v12.toInt64) d_TrustDeskModel_names_44 rfl ?_
        refine mv_callS (kc' := 0) (ks' := 0) (As := [.long v12.toInt64]) (st9 := [.long v12.toInt64, .int 8, .ref a4]) d_TrustDeskModel_names_45 lS_TrustDeskModel_405 (tc_TrustDeskModel_bounded (d := (d + 1)) (x9 := x9) (x1 := v12.toInt64)  I10.start) rfl (Nat.le_of_ble_eq_true rfl) (Nat.le_of_ble_eq_true rfl) (Nat.le_of_ble_eq_true rfl) (hst := rfl) (fun b18r M19 n20 b18 => ?_)
        obtain ⟨T21, J22, v24, rfl⟩ := b18
        have I23 := I10.call J22 (tm_sub (by decide)) (Or.inl rfl)
        have t25 := J22.up t15
        have t26 := J22.up t16
        have R27 := rI_call I10 J22 (I10.up h_o0) (fun _ _ => rfl) (fun _ _ => rfl) R13
        have q28 := J22.keep t15 (by decide) q17
        refine tr_iastR (k := 29) I23 R27 (I23.up h_o0) q28 t26 (by decide) (by decide) (fun lo hi h => by cases h) (Or.inl (by decide)) d_TrustDeskModel_names_48 (by unfold vp_in; decide) (fun M29 I30 K31 R32 E33 A34 V35 => ?_)
        refine mv_aload_n d_TrustDeskModel_names_49 rfl rfl ?_
        refine tr_getK (k := 29) (K31 _ 13 29 _ q28) d_TrustDeskModel_names_50 f_TrustDeskModel_60_13 ?_
        refine mv_bipush (v := 9) d_TrustDeskModel_names_53 (by decide) ?_
        refine mv_aload_n d_TrustDeskModel_names_55 rfl rfl ?_
        obtain ⟨a37, q36, t_a37⟩ := tm_atR I30 t25 (k := 35) rfl
        refine tr_getK q36 d_TrustDeskModel_names_56 f_TrustDeskModel_72_13 ?_
        refine mv_iload_n d_TrustDeskModel_names_59 rfl rfl ?_
        refine tr_laldR (o := o0) (k := 35) I30 q36 t_a37 (by decide) d_TrustDeskModel_names_60 (vp_in_iff.mpr (by omega)) (fun v38 e39 => ?_)
        have := R32.a (k := 35) rfl (x1 : Int32).toNatClampNeg
        refine mv_callS (kc' := 0) (ks' := 0) (As := [.long v38]) (st9 := [.long v38, .int 9, .ref a4]) d_TrustDeskModel_names_61 lS_TrustDeskModel_405 (tc_TrustDeskModel_bounded (d := (d + 1)) (x9 := x9) (x1 := v38)  I30.start) rfl (Nat.le_of_ble_eq_true rfl) (Nat.le_of_ble_eq_true rfl) (Nat.le_of_ble_eq_true rfl) (hst := rfl) (fun b40r M41 n42 b40 => ?_)
        obtain ⟨T43, J44, v46, rfl⟩ := b40
        have I45 := I30.call J44 (tm_sub (by decide)) (Or.inl rfl)
        have t47 := J44.up t25
        have t48 := J44.up t26
        have R49 := rI_call I30 J44 (I30.up h_o0) (fun _ _ => rfl) (fun _ _ => rfl) R32
        have q50 := J44.keep t25 (by decide) (K31 _ 13 29 _ q28)
        have q51 := J44.keep t25 (by decide) q36
        have t52 := J44.up t_a37
        refine tr_iastR (k := 29) I45 R49 (I45.up h_o0) q50 t48 (by decide) (by decide) (fun lo hi h => by cases h) (Or.inl (by decide)) d_TrustDeskModel_names_64 (by unfold vp_in; decide) (fun M53 I54 K55 R56 E57 A58 V59 => ?_)
        refine mv_aload_n d_TrustDeskModel_names_65 rfl rfl ?_
        refine tr_getK (k := 29) (K55 _ 13 29 _ q50) d_TrustDeskModel_names_66 f_TrustDeskModel_60_13 ?_
        refine mv_bipush (v := 10) d_TrustDeskModel_names_69 (by decide) ?_
        refine mv_aload_n d_TrustDeskModel_names_71 rfl rfl ?_
        refine mv_iload_n d_TrustDeskModel_names_72 rfl rfl ?_
        refine mv_iconst (v := 0) d_TrustDeskModel_names_73 (by decide) ?_
        obtain ⟨_, b66, -⟩ := I54.1 _ _ t47
        have : (0 : Int32).toInt = 0 := by decide
        refine mv_callV (kc' := 0) (ks' := 0) (As := [.int x1, .int 0]) (st9 := [.int 0, .int x1, .ref o0, .int 10, .ref a4]) d_TrustDeskModel_names_74 lV_TrustDeskModel_441 b66 rfl (tc_TrustDeskModel_howMany_x (d := (d + 1)) (x9 := x9) (o0 := o0) (x1 := x1) (x2 := 0) t47 (by omega) R56 I54.start) rfl (Nat.le_of_ble_eq_true rfl) (Nat.le_of_ble_eq_true rfl) (Nat.le_of_ble_eq_true rfl) (hst := rfl) (fun b60r M61 n62 b60 => ?_)
        obtain ⟨T63, J64, v67, rfl, R68⟩ := b60
        have I65 := I54.call J64 (tm_sub (by decide)) (Or.inl rfl)
        have t69 := J64.up t47
        have t70 := J64.up t48
        have q71 := J64.keep t47 (by decide) (K55 _ 13 29 _ q50)
        have q72 := J64.keep t47 (by decide) (K55 _ 13 35 _ q51)
        have t73 := J64.up t52
        refine tr_iastR (k := 29) I65 R68 (I65.up h_o0) q71 t70 (by decide) (by decide) (fun lo hi h => by cases h) (Or.inl (by decide)) d_TrustDeskModel_names_77 (by unfold vp_in; decide) (fun M74 I75 K76 R77 E78 A79 V80 => ?_)
        refine mv_aload_n d_TrustDeskModel_names_78 rfl rfl ?_
        refine tr_getK (k := 29) (K76 _ 13 29 _ q71) d_TrustDeskModel_names_79 f_TrustDeskModel_60_13 ?_
        refine mv_bipush (v := 11) d_TrustDeskModel_names_82 (by decide) ?_
        refine mv_aload_n d_TrustDeskModel_names_84 rfl rfl ?_
        refine mv_iload_n d_TrustDeskModel_names_85 rfl rfl ?_
        refine mv_iconst (v := 1) d_TrustDeskModel_names_86 (by decide) ?_
        obtain ⟨_, b87, -⟩ := I75.1 _ _ t69
        have : (1 : Int32).toInt = 1 := by decide
        refine mv_callV (kc' := 0) (ks' := 0) (As := [.int x1, .int 1]) (st9 := [.int 1, .int x1, .ref o0, .int 11, .ref a4]) d_TrustDeskModel_names_87 lV_TrustDeskModel_441 b87 rfl (tc_TrustDeskModel_howMany_x (d := (d + 1)) (x9 := x9) (o0 := o0) (x1 := x1) (x2 := 1) t69 (by omega) R77 I75.start) rfl (Nat.le_of_ble_eq_true rfl) (Nat.le_of_ble_eq_true rfl) (Nat.le_of_ble_eq_true rfl) (hst := rfl) (fun b81r M82 n83 b81 => ?_)
        obtain ⟨T84, J85, v88, rfl, R89⟩ := b81
        have I86 := I75.call J85 (tm_sub (by decide)) (Or.inl rfl)
        have t90 := J85.up t69
        have t91 := J85.up t70
        have q92 := J85.keep t69 (by decide) (K76 _ 13 29 _ q71)
        have q93 := J85.keep t69 (by decide) (K76 _ 13 35 _ q72)
        have t94 := J85.up t73
        refine tr_iastR (k := 29) I86 R89 (I86.up h_o0) q92 t91 (by decide) (by decide) (fun lo hi h => by cases h) (Or.inl (by decide)) d_TrustDeskModel_names_90 (by unfold vp_in; decide) (fun M95 I96 K97 R98 E99 A100 V101 => ?_)
        refine mv_aload_n d_TrustDeskModel_names_91 rfl rfl ?_
        refine tr_getK (k := 29) (K97 _ 13 29 _ q92) d_TrustDeskModel_names_92 f_TrustDeskModel_60_13 ?_
        refine mv_bipush (v := 12) d_TrustDeskModel_names_95 (by decide) ?_
        refine mv_aload_n d_TrustDeskModel_names_97 rfl rfl ?_
        obtain ⟨a103, q102, t_a103⟩ := tm_atR I96 t90 (k := 36) rfl
        refine tr_getK q102 d_TrustDeskModel_names_98 f_TrustDeskModel_76_13 ?_
        refine mv_iload_n d_TrustDeskModel_names_101 rfl rfl ?_
        refine tr_ialdR (o := o0) (k := 36) I96 q102 t_a103 (by decide) d_TrustDeskModel_names_102 (vp_in_iff.mpr (by omega)) (fun v104 e105 => ?_)
        refine mv_callS (kc' := 0) (ks' := 0) (As := [.int v104]) (st9 := [.int v104, .int 12, .ref a4]) d_TrustDeskModel_names_103 lS_TrustDeskModel_444 (tc_TrustDeskModel_size (d := (d + 1)) (x9 := x9) (x1 := v104)  I96.start) rfl (Nat.le_of_ble_eq_true rfl) (Nat.le_of_ble_eq_true rfl) (Nat.le_of_ble_eq_true rfl) (hst := rfl) (fun b106r M107 n108 b106 => ?_)
        obtain ⟨T109, J110, v112, rfl⟩ := b106
        have I111 := I96.call J110 (tm_sub (by decide)) (Or.inl rfl)
        have t113 := J110.up t90
        have t114 := J110.up t91
        have R115 := rI_call I96 J110 (I96.up h_o0) (fun _ _ => rfl) (fun _ _ => rfl) R98
        have q116 := J110.keep t90 (by decide) (K97 _ 13 29 _ q92)
        have q117 := J110.keep t90 (by decide) (K97 _ 13 35 _ q93)
        have t118 := J110.up t94
        have q119 := J110.keep t90 (by decide) q102
        have t120 := J110.up t_a103
        refine tr_iastR (k := 29) I111 R115 (I111.up h_o0) q116 t114 (by decide) (by decide) (fun lo hi h => by cases h) (Or.inl (by decide)) d_TrustDeskModel_names_106 (by unfold vp_in; decide) (fun M121 I122 K123 R124 E125 A126 V127 => ?_)
        exact mv_vret d_TrustDeskModel_names_107 rfl ⟨_, I122, rfl, R124⟩
      · refine mv_aload_n d_TrustDeskModel_names_10 rfl rfl ?_
        obtain ⟨a129, q128, t_a129⟩ := tm_atR I_1 h_q0_1 (k := 29) rfl
        refine tr_getK q128 d_TrustDeskModel_names_11 f_TrustDeskModel_60_13 ?_
        refine mv_iload d_TrustDeskModel_names_14 rfl ?_
        refine mv_aload_n d_TrustDeskModel_names_16 rfl rfl ?_
        refine mv_iload d_TrustDeskModel_names_17 rfl ?_
        refine mv_iload_n d_TrustDeskModel_names_19 rfl rfl ?_
        refine mv_iload_n d_TrustDeskModel_names_20 rfl rfl ?_
        obtain ⟨_, b136, -⟩ := I_1.1 _ _ h_q0_1
        refine mv_callV (kc' := 0) (ks' := 0) (As := [.int i4_1, .int x2, .int x3]) (st9 := [.int x3, .int x2, .int i4_1, .ref o0, .int i4_1, .ref a129]) d_TrustDeskModel_names_21 lV_TrustDeskModel_185 b136 rfl (tc_TrustDeskModel_factAt_x (d := (d + 1)) (x9 := x9) (o0 := o0) (x1 := i4_1) (x2 := x2) (x3 := x3) h_q0_1 kKR_1 I_1.start) rfl (Nat.le_of_ble_eq_true rfl) (Nat.le_of_ble_eq_true rfl) (Nat.le_of_ble_eq_true rfl) (hst := rfl) (fun b130r M131 n132 b130 => ?_)
        obtain ⟨T133, J134, v137, rfl, R138, f139⟩ := b130
        have I135 := I_1.call J134 (tm_sub (by decide)) (Or.inl rfl)
        have t140 := J134.up h_q0_1
        have t141 := J134.up t_a129
        have q142 := J134.keep h_q0_1 (by decide) q128
        refine tr_iastR (k := 29) I135 R138 (I135.up h_o0) q142 t141 (by decide) (by decide) (fun lo hi h => by cases h) (Or.inl (by decide)) d_TrustDeskModel_names_24 (vp_in_iff.mpr (by omega)) (fun M143 I144 K145 R146 E147 A148 V149 => ?_)
        refine mv_iinc (v := (i4_1 + 1)) (lv' := [(4, .int (i4_1 + 1)), (0, .ref o0), (1, .int x1), (2, .int x2), (3, .int x3)]) d_TrustDeskModel_names_25 rfl rfl (by decide) rfl ?_
        refine mv_goto (tgt := 3) d_TrustDeskModel_names_28 (by decide) ?_
        have b150 : (i4_1 + 1 : Int32).toInt = (i4_1.toInt + 1) := mz_add2 rfl (by decide) (by omega) (by omega)
        have b151 : (i4_1 + 1).toInt = i4_1.toInt + 1 := mz_addn 1 1 (by decide) (by have := mz_lo i4_1; omega) (by have := mz_hi i4_1; omega)
        exact (ih1 (i4_1 + 1) T133 M143 n132 I144 t140 (by first | omega | decide | exact fun h9 => absurd (by decide) h9) R146 (by omega))
  have : (0 : Int32).toInt = 0 := by decide
  exact mv_less (Nat.zero_le _) (Nat.zero_le _) (L3_1 4294967296 0 T0 M0 n0 I0 h_o0 (by first | omega | decide | exact fun h9 => absurd (by decide) h9) yR (by show (2147483647 - (0 : Int) : Int) < _; decide))
abbrev kY_TrustDeskModel_gets : mj_Y := (⟨"TrustDeskModel", "gets", "(IJ)V"⟩, prog_14_method_63_code, 4, (Option.none : Option Jvm.ClassFile.FieldType))
theorem d_TrustDeskModel_gets_0 : decode kY_TrustDeskModel_gets.2.1 0 = .ok (.aload_n 0, 1) := by decide +kernel
theorem d_TrustDeskModel_gets_1 : decode kY_TrustDeskModel_gets.2.1 1 = .ok (.getfield 72, 3) := by decide +kernel
theorem d_TrustDeskModel_gets_4 : decode kY_TrustDeskModel_gets.2.1 4 = .ok (.iload_n 1, 1) := by decide +kernel
theorem d_TrustDeskModel_gets_5 : decode kY_TrustDeskModel_gets.2.1 5 = .ok (.aload_n 0, 1) := by decide +kernel
theorem d_TrustDeskModel_gets_6 : decode kY_TrustDeskModel_gets.2.1 6 = .ok (.getfield 72, 3) := by decide +kernel
theorem d_TrustDeskModel_gets_9 : decode kY_TrustDeskModel_gets.2.1 9 = .ok (.iload_n 1, 1) := by decide +kernel
theorem d_TrustDeskModel_gets_10 : decode kY_TrustDeskModel_gets.2.1 10 = .ok (.laload, 1) := by decide +kernel
theorem d_TrustDeskModel_gets_11 : decode kY_TrustDeskModel_gets.2.1 11 = .ok (.lload_n 2, 1) := by decide +kernel
theorem d_TrustDeskModel_gets_12 : decode kY_TrustDeskModel_gets.2.1 12 = .ok (.ladd, 1) := by decide +kernel
theorem d_TrustDeskModel_gets_13 : decode kY_TrustDeskModel_gets.2.1 13 = .ok (.ldc2_w 466, 3) := by decide +kernel
theorem k_TrustDeskModel_466 : Cond.constantLong "TrustDeskModel" 466 1000000000000000 ∈ mj_T := (mj_in1 (List.mem_of_getElem? (i := 1891) (by decide +kernel)) rfl)
theorem d_TrustDeskModel_gets_16 : decode kY_TrustDeskModel_gets.2.1 16 = .ok (.lcmp, 1) := by decide +kernel
theorem d_TrustDeskModel_gets_17 : decode kY_TrustDeskModel_gets.2.1 17 = .ok (.ifCond .le 9, 3) := by decide +kernel
theorem d_TrustDeskModel_gets_26 : decode kY_TrustDeskModel_gets.2.1 26 = .ok (.aload_n 0, 1) := by decide +kernel
theorem d_TrustDeskModel_gets_27 : decode kY_TrustDeskModel_gets.2.1 27 = .ok (.getfield 72, 3) := by decide +kernel
theorem d_TrustDeskModel_gets_30 : decode kY_TrustDeskModel_gets.2.1 30 = .ok (.iload_n 1, 1) := by decide +kernel
theorem d_TrustDeskModel_gets_31 : decode kY_TrustDeskModel_gets.2.1 31 = .ok (.laload, 1) := by decide +kernel
theorem d_TrustDeskModel_gets_32 : decode kY_TrustDeskModel_gets.2.1 32 = .ok (.lload_n 2, 1) := by decide +kernel
theorem d_TrustDeskModel_gets_33 : decode kY_TrustDeskModel_gets.2.1 33 = .ok (.ladd, 1) := by decide +kernel
theorem d_TrustDeskModel_gets_34 : decode kY_TrustDeskModel_gets.2.1 34 = .ok (.lastore, 1) := by decide +kernel
theorem d_TrustDeskModel_gets_35 : decode kY_TrustDeskModel_gets.2.1 35 = .ok (.return_, 1) := by decide +kernel
theorem d_TrustDeskModel_gets_20 : decode kY_TrustDeskModel_gets.2.1 20 = .ok (.ldc2_w 466, 3) := by decide +kernel
theorem d_TrustDeskModel_gets_23 : decode kY_TrustDeskModel_gets.2.1 23 = .ok (.goto 11, 3) := by decide +kernel
def w_TrustDeskModel_gets_x : List Nat := [20035]
set_option maxHeartbeats 100000000 in theorem tc_TrustDeskModel_gets_x {g : mj_G} {l : Launch} {d : Nat} {T0 : tm_H} {M0 : mj_M} {n0 x9 : Nat} {o0 : Nat} {x1 : Int32} {x2 : Int64} (h_o0 : T0 o0 = some (0, 13, 0)) (hn0 : 0 ≤ x1.toInt ∧ x1.toInt ≤ 11) (yR : rI M0 o0) (yv : 0 ≤ x2.toInt ∧ x2.toInt ≤ 8000000000000000000) (I0 : tm_I tm_FT (tm_in w_TrustDeskModel_gets_x) x9 T0 M0 n0 T0 M0 n0) : mj_Met g l kY_TrustDeskModel_gets d [.ref o0, .int x1, .long x2] M0 n0 0 0 (tm_Q tm_FT (tm_in w_TrustDeskModel_gets_x) x9 T0 M0 n0 (fun r _ M => r = none ∧ rI M o0)) := by
  refine mj_enter (by decide) (Nat.le_of_ble_eq_true rfl) ?_
  refine mv_aload_n d_TrustDeskModel_gets_0 rfl rfl ?_
  obtain ⟨a2, q1, t_a2⟩ := tm_atR I0 h_o0 (k := 35) rfl
  refine tr_getK q1 d_TrustDeskModel_gets_1 f_TrustDeskModel_72_13 ?_
  refine mv_iload_n d_TrustDeskModel_gets_4 rfl rfl ?_
  refine mv_aload_n d_TrustDeskModel_gets_5 rfl rfl ?_
  refine tr_getK (k := 35) q1 d_TrustDeskModel_gets_6 f_TrustDeskModel_72_13 ?_
  refine mv_iload_n d_TrustDeskModel_gets_9 rfl rfl ?_
  refine tr_laldR (o := o0) (k := 35) I0 q1 t_a2 (by decide) d_TrustDeskModel_gets_10 (vp_in_iff.mpr (by omega)) (fun v3 e4 => ?_)
  have := yR.a (k := 35) rfl (x1 : Int32).toNatClampNeg
  refine mv_lload_n d_TrustDeskModel_gets_11 rfl rfl ?_
  refine mv_ladd d_TrustDeskModel_gets_12 ?_
  refine mv_ldc2 d_TrustDeskModel_gets_13 k_TrustDeskModel_466 ?_
  have b5 : ((v3 + x2) : Int64).toInt = (v3.toInt + x2.toInt) := mz_addL rfl rfl (by omega) (by omega)
  have : ((v3 + x2) : Int64).toInt = (v3.toInt + x2.toInt) := b5
  refine mv_lleZ (tgt := 26) (a := (v3 + x2).toInt) (b := 1000000000000000) d_TrustDeskModel_gets_16 d_TrustDeskModel_gets_17 (by decide) rfl (by decide) (fun b6 => ?_) (fun b6 => ?_)
  · refine mv_aload_n d_TrustDeskModel_gets_26 rfl rfl ?_
    refine tr_getK (k := 35) q1 d_TrustDeskModel_gets_27 f_TrustDeskModel_72_13 ?_
    refine mv_iload_n d_TrustDeskModel_gets_30 rfl rfl ?_
    refine tr_laldR (o := o0) (k := 35) I0 q1 t_a2 (by decide) d_TrustDeskModel_gets_31 (vp_in_iff.mpr (by omega)) (fun v7 e8 => ?_)
    have := yR.a (k := 35) rfl (x1 : Int32).toNatClampNeg
    refine mv_lload_n d_TrustDeskModel_gets_32 rfl rfl ?_
    refine mv_ladd d_TrustDeskModel_gets_33 ?_
    have b9 : ((v7 + x2) : Int64).toInt = (v7.toInt + x2.toInt) := mz_addL rfl rfl (by omega) (by omega)
    have : ((v7 + x2) : Int64).toInt = (v7.toInt + x2.toInt) := b9
    refine tr_lastR (k := 35) I0 yR (I0.up h_o0) q1 t_a2 (by decide) (by decide) (fun lo hi h => by cases h; exact ⟨by show (0 : Int) ≤ (v7 + x2).toInt; omega, by show (v7 + x2).toInt ≤ (1000000000000000 : Int); omega⟩) (Or.inl (by decide)) d_TrustDeskModel_gets_34 (vp_in_iff.mpr (by omega)) (fun M10 I11 K12 R13 E14 A15 V16 => ?_)
    exact mv_vret d_TrustDeskModel_gets_35 rfl ⟨_, I11, rfl, R13⟩
  · refine mv_ldc2 d_TrustDeskModel_gets_20 k_TrustDeskModel_466 ?_
    refine mv_goto (tgt := 34) d_TrustDeskModel_gets_23 (by decide) ?_
    refine tr_lastR (k := 35) I0 yR (I0.up h_o0) q1 t_a2 (by decide) (by decide) (fun lo hi h => by cases h; have e9 : (1000000000000000 : Int64).toInt = 1000000000000000 := (by decide); exact ⟨by show (0 : Int) ≤ (1000000000000000 : Int64).toInt; omega, by show (1000000000000000 : Int64).toInt ≤ (1000000000000000 : Int); omega⟩) (Or.inl (by decide)) d_TrustDeskModel_gets_34 (vp_in_iff.mpr (by omega)) (fun M17 I18 K19 R20 E21 A22 V23 => ?_)
    exact mv_vret d_TrustDeskModel_gets_35 rfl ⟨_, I18, rfl, R20⟩
abbrev kY_TrustDeskModel_leadsBack : mj_Y := (⟨"TrustDeskModel", "leadsBack", "(II)V"⟩, prog_14_method_64_code, 6, (Option.none : Option Jvm.ClassFile.FieldType))
theorem d_TrustDeskModel_leadsBack_0 : decode kY_TrustDeskModel_leadsBack.2.1 0 = .ok (.iload_n 2, 1) := by decide +kernel
theorem d_TrustDeskModel_leadsBack_1 : decode kY_TrustDeskModel_leadsBack.2.1 1 = .ok (.istore_n 3, 1) := by decide +kernel
theorem d_TrustDeskModel_leadsBack_2 : decode kY_TrustDeskModel_leadsBack.2.1 2 = .ok (.iconst 0, 1) := by decide +kernel
theorem d_TrustDeskModel_leadsBack_3 : decode kY_TrustDeskModel_leadsBack.2.1 3 = .ok (.istore 4, 2) := by decide +kernel
theorem d_TrustDeskModel_leadsBack_5 : decode kY_TrustDeskModel_leadsBack.2.1 5 = .ok (.iload 4, 2) := by decide +kernel
theorem d_TrustDeskModel_leadsBack_7 : decode kY_TrustDeskModel_leadsBack.2.1 7 = .ok (.bipush 12, 2) := by decide +kernel
theorem d_TrustDeskModel_leadsBack_9 : decode kY_TrustDeskModel_leadsBack.2.1 9 = .ok (.if_icmp .ge 50, 3) := by decide +kernel
theorem d_TrustDeskModel_leadsBack_59 : decode kY_TrustDeskModel_leadsBack.2.1 59 = .ok (.iconst 0, 1) := by decide +kernel
theorem d_TrustDeskModel_leadsBack_60 : decode kY_TrustDeskModel_leadsBack.2.1 60 = .ok (.istore 4, 2) := by decide +kernel
theorem d_TrustDeskModel_leadsBack_62 : decode kY_TrustDeskModel_leadsBack.2.1 62 = .ok (.iload 4, 2) := by decide +kernel
theorem d_TrustDeskModel_leadsBack_64 : decode kY_TrustDeskModel_leadsBack.2.1 64 = .ok (.bipush 12, 2) := by decide +kernel
theorem d_TrustDeskModel_leadsBack_66 : decode kY_TrustDeskModel_leadsBack.2.1 66 = .ok (.if_icmp .ge 45, 3) := by decide +kernel
theorem d_TrustDeskModel_leadsBack_111 : decode kY_TrustDeskModel_leadsBack.2.1 111 = .ok (.return_, 1) := by decide +kernel
theorem d_TrustDeskModel_leadsBack_69 : decode kY_TrustDeskModel_leadsBack.2.1 69 = .ok (.iload_n 3, 1) := by decide +kernel
theorem d_TrustDeskModel_leadsBack_70 : decode kY_TrustDeskModel_leadsBack.2.1 70 = .ok (.ifCond .le 41, 3) := by decide +kernel
theorem d_TrustDeskModel_leadsBack_73 : decode kY_TrustDeskModel_leadsBack.2.1 73 = .ok (.aload_n 0, 1) := by decide +kernel
theorem d_TrustDeskModel_leadsBack_74 : decode kY_TrustDeskModel_leadsBack.2.1 74 = .ok (.getfield 92, 3) := by decide +kernel
theorem d_TrustDeskModel_leadsBack_77 : decode kY_TrustDeskModel_leadsBack.2.1 77 = .ok (.bipush 12, 2) := by decide +kernel
theorem d_TrustDeskModel_leadsBack_79 : decode kY_TrustDeskModel_leadsBack.2.1 79 = .ok (.iload_n 1, 1) := by decide +kernel
theorem d_TrustDeskModel_leadsBack_80 : decode kY_TrustDeskModel_leadsBack.2.1 80 = .ok (.imul, 1) := by decide +kernel
theorem d_TrustDeskModel_leadsBack_81 : decode kY_TrustDeskModel_leadsBack.2.1 81 = .ok (.iload 4, 2) := by decide +kernel
theorem d_TrustDeskModel_leadsBack_83 : decode kY_TrustDeskModel_leadsBack.2.1 83 = .ok (.iadd, 1) := by decide +kernel
theorem d_TrustDeskModel_leadsBack_84 : decode kY_TrustDeskModel_leadsBack.2.1 84 = .ok (.iaload, 1) := by decide +kernel
theorem d_TrustDeskModel_leadsBack_85 : decode kY_TrustDeskModel_leadsBack.2.1 85 = .ok (.ifCond .ne 6, 3) := by decide +kernel
theorem d_TrustDeskModel_leadsBack_91 : decode kY_TrustDeskModel_leadsBack.2.1 91 = .ok (.aload_n 0, 1) := by decide +kernel
theorem d_TrustDeskModel_leadsBack_92 : decode kY_TrustDeskModel_leadsBack.2.1 92 = .ok (.getfield 95, 3) := by decide +kernel
theorem f_TrustDeskModel_95_13 : mj_fl "TrustDeskModel" 95 13 42 := ⟨kR_TrustDeskModel, kF_TrustDeskModel, 72, "TrustDeskModel", rfl, kg_13, by decide, (mj_in1 (List.mem_of_getElem? (i := 1428) (by decide +kernel)) rfl), Or.inl rfl⟩
theorem d_TrustDeskModel_leadsBack_95 : decode kY_TrustDeskModel_leadsBack.2.1 95 = .ok (.iload 4, 2) := by decide +kernel
theorem d_TrustDeskModel_leadsBack_97 : decode kY_TrustDeskModel_leadsBack.2.1 97 = .ok (.dup2, 1) := by decide +kernel
theorem d_TrustDeskModel_leadsBack_98 : decode kY_TrustDeskModel_leadsBack.2.1 98 = .ok (.laload, 1) := by decide +kernel
theorem d_TrustDeskModel_leadsBack_99 : decode kY_TrustDeskModel_leadsBack.2.1 99 = .ok (.lconst 1, 1) := by decide +kernel
theorem d_TrustDeskModel_leadsBack_100 : decode kY_TrustDeskModel_leadsBack.2.1 100 = .ok (.ladd, 1) := by decide +kernel
theorem d_TrustDeskModel_leadsBack_101 : decode kY_TrustDeskModel_leadsBack.2.1 101 = .ok (.lastore, 1) := by decide +kernel
theorem d_TrustDeskModel_leadsBack_102 : decode kY_TrustDeskModel_leadsBack.2.1 102 = .ok (.iinc 3 (-1), 3) := by decide +kernel
theorem d_TrustDeskModel_leadsBack_105 : decode kY_TrustDeskModel_leadsBack.2.1 105 = .ok (.iinc 4 1, 3) := by decide +kernel
theorem d_TrustDeskModel_leadsBack_108 : decode kY_TrustDeskModel_leadsBack.2.1 108 = .ok (.goto (-46), 3) := by decide +kernel
theorem d_TrustDeskModel_leadsBack_88 : decode kY_TrustDeskModel_leadsBack.2.1 88 = .ok (.goto 17, 3) := by decide +kernel
theorem d_TrustDeskModel_leadsBack_12 : decode kY_TrustDeskModel_leadsBack.2.1 12 = .ok (.iload_n 2, 1) := by decide +kernel
theorem d_TrustDeskModel_leadsBack_13 : decode kY_TrustDeskModel_leadsBack.2.1 13 = .ok (.i2l, 1) := by decide +kernel
theorem d_TrustDeskModel_leadsBack_14 : decode kY_TrustDeskModel_leadsBack.2.1 14 = .ok (.aload_n 0, 1) := by decide +kernel
theorem d_TrustDeskModel_leadsBack_15 : decode kY_TrustDeskModel_leadsBack.2.1 15 = .ok (.getfield 92, 3) := by decide +kernel
theorem d_TrustDeskModel_leadsBack_18 : decode kY_TrustDeskModel_leadsBack.2.1 18 = .ok (.bipush 12, 2) := by decide +kernel
theorem d_TrustDeskModel_leadsBack_20 : decode kY_TrustDeskModel_leadsBack.2.1 20 = .ok (.iload_n 1, 1) := by decide +kernel
theorem d_TrustDeskModel_leadsBack_21 : decode kY_TrustDeskModel_leadsBack.2.1 21 = .ok (.imul, 1) := by decide +kernel
theorem d_TrustDeskModel_leadsBack_22 : decode kY_TrustDeskModel_leadsBack.2.1 22 = .ok (.iload 4, 2) := by decide +kernel
theorem d_TrustDeskModel_leadsBack_24 : decode kY_TrustDeskModel_leadsBack.2.1 24 = .ok (.iadd, 1) := by decide +kernel
theorem d_TrustDeskModel_leadsBack_25 : decode kY_TrustDeskModel_leadsBack.2.1 25 = .ok (.iaload, 1) := by decide +kernel
theorem d_TrustDeskModel_leadsBack_26 : decode kY_TrustDeskModel_leadsBack.2.1 26 = .ok (.i2l, 1) := by decide +kernel
theorem d_TrustDeskModel_leadsBack_27 : decode kY_TrustDeskModel_leadsBack.2.1 27 = .ok (.lmul, 1) := by decide +kernel
theorem d_TrustDeskModel_leadsBack_28 : decode kY_TrustDeskModel_leadsBack.2.1 28 = .ok (.ldc2_w 468, 3) := by decide +kernel
theorem k_TrustDeskModel_468 : Cond.constantLong "TrustDeskModel" 468 1000000 ∈ mj_T := (mj_in1 (List.mem_of_getElem? (i := 1900) (by decide +kernel)) rfl)
theorem d_TrustDeskModel_leadsBack_31 : decode kY_TrustDeskModel_leadsBack.2.1 31 = .ok (.ldiv, 1) := by decide +kernel
theorem d_TrustDeskModel_leadsBack_32 : decode kY_TrustDeskModel_leadsBack.2.1 32 = .ok (.l2i, 1) := by decide +kernel
theorem d_TrustDeskModel_leadsBack_33 : decode kY_TrustDeskModel_leadsBack.2.1 33 = .ok (.istore 5, 2) := by decide +kernel
theorem d_TrustDeskModel_leadsBack_35 : decode kY_TrustDeskModel_leadsBack.2.1 35 = .ok (.aload_n 0, 1) := by decide +kernel
theorem d_TrustDeskModel_leadsBack_36 : decode kY_TrustDeskModel_leadsBack.2.1 36 = .ok (.getfield 95, 3) := by decide +kernel
theorem d_TrustDeskModel_leadsBack_39 : decode kY_TrustDeskModel_leadsBack.2.1 39 = .ok (.iload 4, 2) := by decide +kernel
theorem d_TrustDeskModel_leadsBack_41 : decode kY_TrustDeskModel_leadsBack.2.1 41 = .ok (.dup2, 1) := by decide +kernel
theorem d_TrustDeskModel_leadsBack_42 : decode kY_TrustDeskModel_leadsBack.2.1 42 = .ok (.laload, 1) := by decide +kernel
theorem d_TrustDeskModel_leadsBack_43 : decode kY_TrustDeskModel_leadsBack.2.1 43 = .ok (.iload 5, 2) := by decide +kernel
theorem d_TrustDeskModel_leadsBack_45 : decode kY_TrustDeskModel_leadsBack.2.1 45 = .ok (.i2l, 1) := by decide +kernel
theorem d_TrustDeskModel_leadsBack_46 : decode kY_TrustDeskModel_leadsBack.2.1 46 = .ok (.ladd, 1) := by decide +kernel
theorem d_TrustDeskModel_leadsBack_47 : decode kY_TrustDeskModel_leadsBack.2.1 47 = .ok (.lastore, 1) := by decide +kernel
theorem d_TrustDeskModel_leadsBack_48 : decode kY_TrustDeskModel_leadsBack.2.1 48 = .ok (.iload_n 3, 1) := by decide +kernel
theorem d_TrustDeskModel_leadsBack_49 : decode kY_TrustDeskModel_leadsBack.2.1 49 = .ok (.iload 5, 2) := by decide +kernel
theorem d_TrustDeskModel_leadsBack_51 : decode kY_TrustDeskModel_leadsBack.2.1 51 = .ok (.isub, 1) := by decide +kernel
theorem d_TrustDeskModel_leadsBack_52 : decode kY_TrustDeskModel_leadsBack.2.1 52 = .ok (.istore_n 3, 1) := by decide +kernel
theorem d_TrustDeskModel_leadsBack_53 : decode kY_TrustDeskModel_leadsBack.2.1 53 = .ok (.iinc 4 1, 3) := by decide +kernel
theorem d_TrustDeskModel_leadsBack_56 : decode kY_TrustDeskModel_leadsBack.2.1 56 = .ok (.goto (-51), 3) := by decide +kernel
def w_TrustDeskModel_leadsBack_x : List Nat := [20042]
set_option maxHeartbeats 100000000 in theorem tc_TrustDeskModel_leadsBack_x {g : mj_G} {l : Launch} {d : Nat} {T0 : tm_H} {M0 : mj_M} {n0 x9 : Nat} {o0 : Nat} {x1 : Int32} {x2 : Int32} (h_o0 : T0 o0 = some (0, 13, 0)) (hn0 : 0 ≤ x1.toInt ∧ x1.toInt ≤ 11) (yR : rI M0 o0) (I0 : tm_I tm_FT (tm_in w_TrustDeskModel_leadsBack_x) x9 T0 M0 n0 T0 M0 n0) : mj_Met g l kY_TrustDeskModel_leadsBack d [.ref o0, .int x1, .int x2] M0 n0 0 0 (tm_Q tm_FT (tm_in w_TrustDeskModel_leadsBack_x) x9 T0 M0 n0 (fun r _ M => r = none ∧ rI M o0)) := by
  refine mj_enter (by decide) (Nat.le_of_ble_eq_true rfl) ?_
  refine mv_iload_n d_TrustDeskModel_leadsBack_0 rfl rfl ?_
  refine mv_istore_n (lv' := [(3, .int x2), (0, .ref o0), (1, .int x1), (2, .int x2)]) d_TrustDeskModel_leadsBack_1 rfl (by decide) rfl ?_
  refine mv_iconst (v := 0) d_TrustDeskModel_leadsBack_2 (by decide) ?_
  refine mv_istore (lv' := [(4, .int 0), (3, .int x2), (0, .ref o0), (1, .int x1), (2, .int x2)]) d_TrustDeskModel_leadsBack_3 (by decide) rfl ?_
  have L5_1 : ∀ (k : Nat) (i4_1 : Int32) (i3_1 : Int32) (T_1 : tm_H) (M_1 : mj_M) (n_1 : Nat), tm_I tm_FT (tm_in w_TrustDeskModel_leadsBack_x) x9 T0 M0 n0 T_1 M_1 n_1 → T_1 o0 = some (0, 13, 0) → 0 ≤ i4_1.toInt → (rI M_1 o0) → 2147483647 - i4_1.toInt < (k : Int) → mj_V g l kY_TrustDeskModel_leadsBack d 5 [(4, .int i4_1), (3, .int i3_1), (0, .ref o0), (1, .int x1), (2, .int x2)] [] M_1 n_1 0 0 (tm_Q tm_FT (tm_in w_TrustDeskModel_leadsBack_x) x9 T0 M0 n0 (fun r _ M => r = none ∧ rI M o0)) := by
    intro k1
    induction k1 with
    | zero =>
      intro i4_1 i3_1 T_1 M_1 n_1 I_1 h_q0_1 iv0_1 kKR_1 hk1
      have := mz_hi i4_1
      have := kKR_1.1 15 _ _ rfl
      have := kKR_1.1 16 _ _ rfl
      have := kKR_1.1 19 _ _ rfl
      omega
    | succ k1 ih1 =>
      intro i4_1 i3_1 T_1 M_1 n_1 I_1 h_q0_1 iv0_1 kKR_1 hk1
      refine mv_iload d_TrustDeskModel_leadsBack_5 rfl ?_
      refine mv_bipush (v := 12) d_TrustDeskModel_leadsBack_7 (by decide) ?_
      have := mz_hi i4_1
      refine mv_icmp_geZ (tgt := 59) (a := i4_1.toInt) (b := 12) d_TrustDeskModel_leadsBack_9 (by decide) rfl (by decide) (fun b2 => ?_) (fun b2 => ?_)
      · refine mv_iconst (v := 0) d_TrustDeskModel_leadsBack_59 (by decide) ?_
        refine mv_istore (lv' := [(4, .int 0), (3, .int i3_1), (0, .ref o0), (1, .int x1), (2, .int x2)]) d_TrustDeskModel_leadsBack_60 (by decide) rfl ?_
        have L62_3 : ∀ (k : Nat) (i4_3 : Int32) (i3_3 : Int32) (T_3 : tm_H) (M_3 : mj_M) (n_3 : Nat), tm_I tm_FT (tm_in w_TrustDeskModel_leadsBack_x) x9 T0 M0 n0 T_3 M_3 n_3 → T_3 o0 = some (0, 13, 0) → 0 ≤ i4_3.toInt → (rI M_3 o0) → 2147483647 - i4_3.toInt < (k : Int) → mj_V g l kY_TrustDeskModel_leadsBack d 62 [(4, .int i4_3), (3, .int i3_3), (0, .ref o0), (1, .int x1), (2, .int x2)] [] M_3 n_3 0 0 (tm_Q tm_FT (tm_in w_TrustDeskModel_leadsBack_x) x9 T0 M0 n0 (fun r _ M => r = none ∧ rI M o0)) := by
          intro k3
          induction k3 with
          | zero =>
            intro i4_3 i3_3 T_3 M_3 n_3 I_3 h_q0_3 iv0_3 kKR_3 hk3
            have := mz_hi i4_3
            have := kKR_3.1 15 _ _ rfl
            have := kKR_3.1 16 _ _ rfl
            have := kKR_3.1 19 _ _ rfl
            omega
          | succ k3 ih3 =>
            intro i4_3 i3_3 T_3 M_3 n_3 I_3 h_q0_3 iv0_3 kKR_3 hk3
            refine mv_iload d_TrustDeskModel_leadsBack_62 rfl ?_
            refine mv_bipush (v := 12) d_TrustDeskModel_leadsBack_64 (by decide) ?_
            have := mz_hi i4_3
            refine mv_icmp_geZ (tgt := 111) (a := i4_3.toInt) (b := 12) d_TrustDeskModel_leadsBack_66 (by decide) rfl (by decide) (fun b4 => ?_) (fun b4 => ?_)
            · exact mv_vret d_TrustDeskModel_leadsBack_111 rfl ⟨_, I_3, rfl, kKR_3⟩
            · refine mv_iload_n d_TrustDeskModel_leadsBack_69 rfl rfl ?_
              have := mz_hi i3_3
              refine mv_if_leZ (tgt := 111) (a := i3_3.toInt) d_TrustDeskModel_leadsBack_70 (by decide) rfl (fun b5 => ?_) (fun b5 => ?_)
              · exact mv_vret d_TrustDeskModel_leadsBack_111 rfl ⟨_, I_3, rfl, kKR_3⟩
              · refine mv_aload_n d_TrustDeskModel_leadsBack_73 rfl rfl ?_
                obtain ⟨a7, q6, t_a7⟩ := tm_atR I_3 h_q0_3 (k := 41) rfl
                refine tr_getK q6 d_TrustDeskModel_leadsBack_74 f_TrustDeskModel_92_13 ?_
                refine mv_bipush (v := 12) d_TrustDeskModel_leadsBack_77 (by decide) ?_
                refine mv_iload_n d_TrustDeskModel_leadsBack_79 rfl rfl ?_
                refine mv_imul d_TrustDeskModel_leadsBack_80 ?_
                refine mv_iload d_TrustDeskModel_leadsBack_81 rfl ?_
                refine mv_iadd d_TrustDeskModel_leadsBack_83 ?_
                have b8 : (12 * x1 : Int32).toInt = (12 * x1.toInt) := mz_mul2 (by decide) rfl (by omega) (by omega)
                have b9 : ((12 * x1) + i4_3 : Int32).toInt = ((12 * x1.toInt) + i4_3.toInt) := mz_add2 b8 rfl (by omega) (by omega)
                refine tr_ialdR (o := o0) (k := 41) I_3 q6 t_a7 (by decide) d_TrustDeskModel_leadsBack_84 (vp_in_iff.mpr (by omega)) (fun v10 e11 => ?_)
                have := kKR_3.a (k := 41) rfl (((12 * x1) + i4_3) : Int32).toNatClampNeg
                have := mz_hi v10
                refine mv_if_neZ (tgt := 91) (a := v10.toInt) d_TrustDeskModel_leadsBack_85 (by decide) rfl (fun b12 => ?_) (fun b12 => ?_)
                · refine mv_aload_n d_TrustDeskModel_leadsBack_91 rfl rfl ?_
                  obtain ⟨a14, q13, t_a14⟩ := tm_atR I_3 h_q0_3 (k := 42) rfl
                  refine tr_getK q13 d_TrustDeskModel_leadsBack_92 f_TrustDeskModel_95_13 ?_
                  refine mv_iload d_TrustDeskModel_leadsBack_95 rfl ?_
                  refine mv_dup2_11 d_TrustDeskModel_leadsBack_97 rfl rfl ?_
                  refine tr_laldR (o := o0) (k := 42) I_3 q13 t_a14 (by decide) d_TrustDeskModel_leadsBack_98 (vp_in_iff.mpr (by omega)) (fun v15 e16 => ?_)
                  refine mv_lconst (v := 1) d_TrustDeskModel_leadsBack_99 (by decide) ?_
                  refine mv_ladd d_TrustDeskModel_leadsBack_100 ?_
                  refine tr_lastR (k := 42) I_3 kKR_3 (I_3.up h_o0) q13 t_a14 (by decide) (by decide) (fun lo hi h => by cases h) (Or.inl (by decide)) d_TrustDeskModel_leadsBack_101 (vp_in_iff.mpr (by omega)) (fun M17 I18 K19 R20 E21 A22 V23 => ?_)
                  refine mv_iinc (v := (i3_3 + (-1))) (lv' := [(3, .int (i3_3 + (-1))), (4, .int i4_3), (0, .ref o0), (1, .int x1), (2, .int x2)]) d_TrustDeskModel_leadsBack_102 rfl rfl (by decide) rfl ?_
                  refine mv_iinc (v := (i4_3 + 1)) (lv' := [(4, .int (i4_3 + 1)), (3, .int (i3_3 + (-1))), (0, .ref o0), (1, .int x1), (2, .int x2)]) d_TrustDeskModel_leadsBack_105 rfl rfl (by decide) rfl ?_
                  refine mv_goto (tgt := 62) d_TrustDeskModel_leadsBack_108 (by decide) ?_
                  have b24 : (i4_3 + 1).toInt = i4_3.toInt + 1 := mz_addn 1 1 (by decide) (by have := mz_lo i4_3; omega) (by have := mz_hi i4_3; omega)
                  exact (ih3 (i4_3 + 1) (i3_3 + (-1)) T_3 M17 n_3 I18 h_q0_3 (by first | omega | decide | exact fun h9 => absurd (by decide) h9) R20 (by omega))
                · refine mv_goto (tgt := 105) d_TrustDeskModel_leadsBack_88 (by decide) ?_
                  refine mv_iinc (v := (i4_3 + 1)) (lv' := [(4, .int (i4_3 + 1)), (3, .int i3_3), (0, .ref o0), (1, .int x1), (2, .int x2)]) d_TrustDeskModel_leadsBack_105 rfl rfl (by decide) rfl ?_
                  refine mv_goto (tgt := 62) d_TrustDeskModel_leadsBack_108 (by decide) ?_
                  have b25 : (i4_3 + 1).toInt = i4_3.toInt + 1 := mz_addn 1 1 (by decide) (by have := mz_lo i4_3; omega) (by have := mz_hi i4_3; omega)
                  exact (ih3 (i4_3 + 1) i3_3 T_3 M_3 n_3 I_3 h_q0_3 (by first | omega | decide | exact fun h9 => absurd (by decide) h9) kKR_3 (by omega))
        have : (0 : Int32).toInt = 0 := by decide
        exact mv_less (Nat.zero_le _) (Nat.zero_le _) (L62_3 4294967296 0 i3_1 T_1 M_1 n_1 I_1 h_q0_1 (by first | omega | decide | exact fun h9 => absurd (by decide) h9) kKR_1 (by show (2147483647 - (0 : Int) : Int) < _; decide))
      · refine mv_iload_n d_TrustDeskModel_leadsBack_12 rfl rfl ?_
        refine mv_i2l (v := x2.toInt64) d_TrustDeskModel_leadsBack_13 rfl ?_
        refine mv_aload_n d_TrustDeskModel_leadsBack_14 rfl rfl ?_
        obtain ⟨a27, q26, t_a27⟩ := tm_atR I_1 h_q0_1 (k := 41) rfl
        refine tr_getK q26 d_TrustDeskModel_leadsBack_15 f_TrustDeskModel_92_13 ?_
        refine mv_bipush (v := 12) d_TrustDeskModel_leadsBack_18 (by decide) ?_
        refine mv_iload_n d_TrustDeskModel_leadsBack_20 rfl rfl ?_
        refine mv_imul d_TrustDeskModel_leadsBack_21 ?_
        refine mv_iload d_TrustDeskModel_leadsBack_22 rfl ?_
        refine mv_iadd d_TrustDeskModel_leadsBack_24 ?_
        have b28 : (12 * x1 : Int32).toInt = (12 * x1.toInt) := mz_mul2 (by decide) rfl (by omega) (by omega)
        have b29 : ((12 * x1) + i4_1 : Int32).toInt = ((12 * x1.toInt) + i4_1.toInt) := mz_add2 b28 rfl (by omega) (by omega)
        refine tr_ialdR (o := o0) (k := 41) I_1 q26 t_a27 (by decide) d_TrustDeskModel_leadsBack_25 (vp_in_iff.mpr (by omega)) (fun v30 e31 => ?_)
        have := kKR_1.a (k := 41) rfl (((12 * x1) + i4_1) : Int32).toNatClampNeg
        refine mv_i2l (v := v30.toInt64) d_TrustDeskModel_leadsBack_26 rfl ?_
        refine mv_lmul d_TrustDeskModel_leadsBack_27 ?_
        refine mv_ldc2 d_TrustDeskModel_leadsBack_28 k_TrustDeskModel_468 ?_
        refine mv_ldiv d_TrustDeskModel_leadsBack_31 (by decide) ?_
        refine mv_l2i (v := ((x2.toInt64 * v30.toInt64) / 1000000).toInt32) d_TrustDeskModel_leadsBack_32 rfl ?_
        refine mv_istore (lv' := [(5, .int (((x2.toInt64 * v30.toInt64) / 1000000).toInt32)), (4, .int i4_1), (3, .int i3_1), (0, .ref o0), (1, .int x1), (2, .int x2)]) d_TrustDeskModel_leadsBack_33 (by decide) rfl ?_
        refine mv_aload_n d_TrustDeskModel_leadsBack_35 rfl rfl ?_
        obtain ⟨a33, q32, t_a33⟩ := tm_atR I_1 h_q0_1 (k := 42) rfl
        refine tr_getK q32 d_TrustDeskModel_leadsBack_36 f_TrustDeskModel_95_13 ?_
        refine mv_iload d_TrustDeskModel_leadsBack_39 rfl ?_
        refine mv_dup2_11 d_TrustDeskModel_leadsBack_41 rfl rfl ?_
        refine tr_laldR (o := o0) (k := 42) I_1 q32 t_a33 (by decide) d_TrustDeskModel_leadsBack_42 (vp_in_iff.mpr (by omega)) (fun v34 e35 => ?_)
        refine mv_iload d_TrustDeskModel_leadsBack_43 rfl ?_
        refine mv_i2l (v := (((x2.toInt64 * v30.toInt64) / 1000000).toInt32).toInt64) d_TrustDeskModel_leadsBack_45 rfl ?_
        refine mv_ladd d_TrustDeskModel_leadsBack_46 ?_
        refine tr_lastR (k := 42) I_1 kKR_1 (I_1.up h_o0) q32 t_a33 (by decide) (by decide) (fun lo hi h => by cases h) (Or.inl (by decide)) d_TrustDeskModel_leadsBack_47 (vp_in_iff.mpr (by omega)) (fun M36 I37 K38 R39 E40 A41 V42 => ?_)
        refine mv_iload_n d_TrustDeskModel_leadsBack_48 rfl rfl ?_
        refine mv_iload d_TrustDeskModel_leadsBack_49 rfl ?_
        refine mv_isub d_TrustDeskModel_leadsBack_51 ?_
        refine mv_istore_n (lv' := [(3, .int (i3_1 - (((x2.toInt64 * v30.toInt64) / 1000000).toInt32))), (5, .int (((x2.toInt64 * v30.toInt64) / 1000000).toInt32)), (4, .int i4_1), (0, .ref o0), (1, .int x1), (2, .int x2)]) d_TrustDeskModel_leadsBack_52 rfl (by decide) rfl ?_
        refine mv_iinc (v := (i4_1 + 1)) (lv' := [(4, .int (i4_1 + 1)), (3, .int (i3_1 - (((x2.toInt64 * v30.toInt64) / 1000000).toInt32))), (5, .int (((x2.toInt64 * v30.toInt64) / 1000000).toInt32)), (0, .ref o0), (1, .int x1), (2, .int x2)]) d_TrustDeskModel_leadsBack_53 rfl rfl (by decide) rfl ?_
        refine mv_goto (tgt := 5) d_TrustDeskModel_leadsBack_56 (by decide) ?_
        refine mv_locals (lv' := [(4, .int (i4_1 + 1)), (3, .int (i3_1 - (((x2.toInt64 * v30.toInt64) / 1000000).toInt32))), (0, .ref o0), (1, .int x1), (2, .int x2)]) (by intro q hq; simp only [List.mem_cons, List.not_mem_nil, or_false] at hq; rcases hq with rfl | rfl | rfl | rfl | rfl <;> rfl) ?_
        have b43 : (i4_1 + 1).toInt = i4_1.toInt + 1 := mz_addn 1 1 (by decide) (by have := mz_lo i4_1; omega) (by have := mz_hi i4_1; omega)
        exact (ih1 (i4_1 + 1) (i3_1 - (((x2.toInt64 * v30.toInt64) / 1000000).toInt32)) T_1 M36 n_1 I37 h_q0_1 (by first | omega | decide | exact fun h9 => absurd (by decide) h9) R39 (by omega))
  have : (0 : Int32).toInt = 0 := by decide
  exact mv_less (Nat.zero_le _) (Nat.zero_le _) (L5_1 4294967296 0 x2 T0 M0 n0 I0 h_o0 (by first | omega | decide | exact fun h9 => absurd (by decide) h9) yR (by show (2147483647 - (0 : Int) : Int) < _; decide))
abbrev kY_TrustDeskModel_pays : mj_Y := (⟨"TrustDeskModel", "pays", "(IIII)V"⟩, prog_14_method_65_code, 5, (Option.none : Option Jvm.ClassFile.FieldType))
theorem d_TrustDeskModel_pays_0 : decode kY_TrustDeskModel_pays.2.1 0 = .ok (.iload 4, 2) := by decide +kernel
theorem d_TrustDeskModel_pays_2 : decode kY_TrustDeskModel_pays.2.1 2 = .ok (.ifCond .ne 4, 3) := by decide +kernel
theorem d_TrustDeskModel_pays_6 : decode kY_TrustDeskModel_pays.2.1 6 = .ok (.aload_n 0, 1) := by decide +kernel
theorem d_TrustDeskModel_pays_7 : decode kY_TrustDeskModel_pays.2.1 7 = .ok (.getfield 72, 3) := by decide +kernel
theorem d_TrustDeskModel_pays_10 : decode kY_TrustDeskModel_pays.2.1 10 = .ok (.iload_n 1, 1) := by decide +kernel
theorem d_TrustDeskModel_pays_11 : decode kY_TrustDeskModel_pays.2.1 11 = .ok (.dup2, 1) := by decide +kernel
theorem d_TrustDeskModel_pays_12 : decode kY_TrustDeskModel_pays.2.1 12 = .ok (.laload, 1) := by decide +kernel
theorem d_TrustDeskModel_pays_13 : decode kY_TrustDeskModel_pays.2.1 13 = .ok (.iload 4, 2) := by decide +kernel
theorem d_TrustDeskModel_pays_15 : decode kY_TrustDeskModel_pays.2.1 15 = .ok (.i2l, 1) := by decide +kernel
theorem d_TrustDeskModel_pays_16 : decode kY_TrustDeskModel_pays.2.1 16 = .ok (.lsub, 1) := by decide +kernel
theorem d_TrustDeskModel_pays_17 : decode kY_TrustDeskModel_pays.2.1 17 = .ok (.lastore, 1) := by decide +kernel
theorem d_TrustDeskModel_pays_18 : decode kY_TrustDeskModel_pays.2.1 18 = .ok (.aload_n 0, 1) := by decide +kernel
theorem d_TrustDeskModel_pays_19 : decode kY_TrustDeskModel_pays.2.1 19 = .ok (.iload_n 1, 1) := by decide +kernel
theorem d_TrustDeskModel_pays_20 : decode kY_TrustDeskModel_pays.2.1 20 = .ok (.iload 4, 2) := by decide +kernel
theorem d_TrustDeskModel_pays_22 : decode kY_TrustDeskModel_pays.2.1 22 = .ok (.invokevirtual 470, 3) := by decide +kernel
theorem lV_TrustDeskModel_470 : mj_lV "TrustDeskModel" 470 kY_TrustDeskModel_leadsBack 2 := ⟨⟨(mj_in1 (List.mem_of_getElem? (i := 1896) (by decide +kernel)) rfl), (mj_in1 (List.mem_of_getElem? (i := 10) (by decide +kernel)) rfl), (mj_in1 (List.mem_of_getElem? (i := 1899) (by decide +kernel)) rfl), by decide, rfl, by decide⟩, (mj_in1 (List.mem_of_getElem? (i := 1898) (by decide +kernel)) rfl), (mj_in (List.mem_append_left _ (List.mem_of_getElem? (i := 121) (by decide +kernel))) rfl)⟩
theorem d_TrustDeskModel_pays_25 : decode kY_TrustDeskModel_pays.2.1 25 = .ok (.aload_n 0, 1) := by decide +kernel
theorem d_TrustDeskModel_pays_26 : decode kY_TrustDeskModel_pays.2.1 26 = .ok (.getfield 474, 3) := by decide +kernel
theorem f_TrustDeskModel_474_13 : mj_fl "TrustDeskModel" 474 13 51 := ⟨kR_TrustDeskModel, kF_TrustDeskModel, 72, "TrustDeskModel", rfl, kg_13, by decide, (mj_in1 (List.mem_of_getElem? (i := 1437) (by decide +kernel)) rfl), Or.inl rfl⟩
theorem d_TrustDeskModel_pays_29 : decode kY_TrustDeskModel_pays.2.1 29 = .ok (.sipush 600, 3) := by decide +kernel
theorem d_TrustDeskModel_pays_32 : decode kY_TrustDeskModel_pays.2.1 32 = .ok (.if_icmp .ne 4, 3) := by decide +kernel
theorem d_TrustDeskModel_pays_36 : decode kY_TrustDeskModel_pays.2.1 36 = .ok (.aload_n 0, 1) := by decide +kernel
theorem d_TrustDeskModel_pays_37 : decode kY_TrustDeskModel_pays.2.1 37 = .ok (.getfield 119, 3) := by decide +kernel
theorem f_TrustDeskModel_119_13 : mj_fl "TrustDeskModel" 119 13 52 := ⟨kR_TrustDeskModel, kF_TrustDeskModel, 72, "TrustDeskModel", rfl, kg_13, by decide, (mj_in1 (List.mem_of_getElem? (i := 1438) (by decide +kernel)) rfl), Or.inl rfl⟩
theorem d_TrustDeskModel_pays_40 : decode kY_TrustDeskModel_pays.2.1 40 = .ok (.iconst 4, 1) := by decide +kernel
theorem d_TrustDeskModel_pays_41 : decode kY_TrustDeskModel_pays.2.1 41 = .ok (.aload_n 0, 1) := by decide +kernel
theorem d_TrustDeskModel_pays_42 : decode kY_TrustDeskModel_pays.2.1 42 = .ok (.getfield 474, 3) := by decide +kernel
theorem d_TrustDeskModel_pays_45 : decode kY_TrustDeskModel_pays.2.1 45 = .ok (.imul, 1) := by decide +kernel
theorem d_TrustDeskModel_pays_46 : decode kY_TrustDeskModel_pays.2.1 46 = .ok (.iload_n 3, 1) := by decide +kernel
theorem d_TrustDeskModel_pays_47 : decode kY_TrustDeskModel_pays.2.1 47 = .ok (.iastore, 1) := by decide +kernel
theorem d_TrustDeskModel_pays_48 : decode kY_TrustDeskModel_pays.2.1 48 = .ok (.aload_n 0, 1) := by decide +kernel
theorem d_TrustDeskModel_pays_49 : decode kY_TrustDeskModel_pays.2.1 49 = .ok (.getfield 119, 3) := by decide +kernel
theorem d_TrustDeskModel_pays_52 : decode kY_TrustDeskModel_pays.2.1 52 = .ok (.iconst 4, 1) := by decide +kernel
theorem d_TrustDeskModel_pays_53 : decode kY_TrustDeskModel_pays.2.1 53 = .ok (.aload_n 0, 1) := by decide +kernel
theorem d_TrustDeskModel_pays_54 : decode kY_TrustDeskModel_pays.2.1 54 = .ok (.getfield 474, 3) := by decide +kernel
theorem d_TrustDeskModel_pays_57 : decode kY_TrustDeskModel_pays.2.1 57 = .ok (.imul, 1) := by decide +kernel
theorem d_TrustDeskModel_pays_58 : decode kY_TrustDeskModel_pays.2.1 58 = .ok (.iconst 1, 1) := by decide +kernel
theorem d_TrustDeskModel_pays_59 : decode kY_TrustDeskModel_pays.2.1 59 = .ok (.iadd, 1) := by decide +kernel
theorem d_TrustDeskModel_pays_60 : decode kY_TrustDeskModel_pays.2.1 60 = .ok (.iload_n 1, 1) := by decide +kernel
theorem d_TrustDeskModel_pays_61 : decode kY_TrustDeskModel_pays.2.1 61 = .ok (.iastore, 1) := by decide +kernel
theorem d_TrustDeskModel_pays_62 : decode kY_TrustDeskModel_pays.2.1 62 = .ok (.aload_n 0, 1) := by decide +kernel
theorem d_TrustDeskModel_pays_63 : decode kY_TrustDeskModel_pays.2.1 63 = .ok (.getfield 119, 3) := by decide +kernel
theorem d_TrustDeskModel_pays_66 : decode kY_TrustDeskModel_pays.2.1 66 = .ok (.iconst 4, 1) := by decide +kernel
theorem d_TrustDeskModel_pays_67 : decode kY_TrustDeskModel_pays.2.1 67 = .ok (.aload_n 0, 1) := by decide +kernel
theorem d_TrustDeskModel_pays_68 : decode kY_TrustDeskModel_pays.2.1 68 = .ok (.getfield 474, 3) := by decide +kernel
theorem d_TrustDeskModel_pays_71 : decode kY_TrustDeskModel_pays.2.1 71 = .ok (.imul, 1) := by decide +kernel
theorem d_TrustDeskModel_pays_72 : decode kY_TrustDeskModel_pays.2.1 72 = .ok (.iconst 2, 1) := by decide +kernel
theorem d_TrustDeskModel_pays_73 : decode kY_TrustDeskModel_pays.2.1 73 = .ok (.iadd, 1) := by decide +kernel
theorem d_TrustDeskModel_pays_74 : decode kY_TrustDeskModel_pays.2.1 74 = .ok (.iload_n 2, 1) := by decide +kernel
theorem d_TrustDeskModel_pays_75 : decode kY_TrustDeskModel_pays.2.1 75 = .ok (.iastore, 1) := by decide +kernel
theorem d_TrustDeskModel_pays_76 : decode kY_TrustDeskModel_pays.2.1 76 = .ok (.aload_n 0, 1) := by decide +kernel
theorem d_TrustDeskModel_pays_77 : decode kY_TrustDeskModel_pays.2.1 77 = .ok (.getfield 119, 3) := by decide +kernel
theorem d_TrustDeskModel_pays_80 : decode kY_TrustDeskModel_pays.2.1 80 = .ok (.iconst 4, 1) := by decide +kernel
theorem d_TrustDeskModel_pays_81 : decode kY_TrustDeskModel_pays.2.1 81 = .ok (.aload_n 0, 1) := by decide +kernel
theorem d_TrustDeskModel_pays_82 : decode kY_TrustDeskModel_pays.2.1 82 = .ok (.getfield 474, 3) := by decide +kernel
theorem d_TrustDeskModel_pays_85 : decode kY_TrustDeskModel_pays.2.1 85 = .ok (.imul, 1) := by decide +kernel
theorem d_TrustDeskModel_pays_86 : decode kY_TrustDeskModel_pays.2.1 86 = .ok (.iconst 3, 1) := by decide +kernel
theorem d_TrustDeskModel_pays_87 : decode kY_TrustDeskModel_pays.2.1 87 = .ok (.iadd, 1) := by decide +kernel
theorem d_TrustDeskModel_pays_88 : decode kY_TrustDeskModel_pays.2.1 88 = .ok (.iload 4, 2) := by decide +kernel
theorem d_TrustDeskModel_pays_90 : decode kY_TrustDeskModel_pays.2.1 90 = .ok (.iastore, 1) := by decide +kernel
theorem d_TrustDeskModel_pays_91 : decode kY_TrustDeskModel_pays.2.1 91 = .ok (.aload_n 0, 1) := by decide +kernel
theorem d_TrustDeskModel_pays_92 : decode kY_TrustDeskModel_pays.2.1 92 = .ok (.dup, 1) := by decide +kernel
theorem d_TrustDeskModel_pays_93 : decode kY_TrustDeskModel_pays.2.1 93 = .ok (.getfield 474, 3) := by decide +kernel
theorem d_TrustDeskModel_pays_96 : decode kY_TrustDeskModel_pays.2.1 96 = .ok (.iconst 1, 1) := by decide +kernel
theorem d_TrustDeskModel_pays_97 : decode kY_TrustDeskModel_pays.2.1 97 = .ok (.iadd, 1) := by decide +kernel
theorem d_TrustDeskModel_pays_98 : decode kY_TrustDeskModel_pays.2.1 98 = .ok (.putfield 474, 3) := by decide +kernel
theorem p_TrustDeskModel_474_13 : mj_fp "TrustDeskModel" 474 13 51 (kt_TrustDeskModel 51) false := ⟨kR_TrustDeskModel, kF_TrustDeskModel, 72, "TrustDeskModel", kt_TrustDeskModel, rfl, kg_13, by decide, (mj_in1 (List.mem_of_getElem? (i := 1437) (by decide +kernel)) rfl), Or.inl rfl, kto_TrustDeskModel, kn_TrustDeskModel, rfl, rfl, fun h => by cases h⟩
theorem d_TrustDeskModel_pays_101 : decode kY_TrustDeskModel_pays.2.1 101 = .ok (.return_, 1) := by decide +kernel
theorem d_TrustDeskModel_pays_35 : decode kY_TrustDeskModel_pays.2.1 35 = .ok (.return_, 1) := by decide +kernel
theorem d_TrustDeskModel_pays_5 : decode kY_TrustDeskModel_pays.2.1 5 = .ok (.return_, 1) := by decide +kernel
def w_TrustDeskModel_pays_x : List Nat := [1351, 20035, 20042, 20052]
set_option maxHeartbeats 100000000 in theorem tc_TrustDeskModel_pays_x {g : mj_G} {l : Launch} {d : Nat} {T0 : tm_H} {M0 : mj_M} {n0 x9 : Nat} {o0 : Nat} {x1 : Int32} {x2 : Int32} {x3 : Int32} {x4 : Int32} (h_o0 : T0 o0 = some (0, 13, 0)) (hn0 : 0 ≤ x1.toInt ∧ x1.toInt ≤ 11) (yR : rI M0 o0) (yv : 0 ≤ x4.toInt ∧ x4.toInt ≤ ra M0 o0 35 x1.toNatClampNeg) (I0 : tm_I tm_FT (tm_in w_TrustDeskModel_pays_x) x9 T0 M0 n0 T0 M0 n0) : mj_Met g l kY_TrustDeskModel_pays (d + 1) [.ref o0, .int x1, .int x2, .int x3, .int x4] M0 n0 0 0 (tm_Q tm_FT (tm_in w_TrustDeskModel_pays_x) x9 T0 M0 n0 (fun r _ M => r = none ∧ rI M o0)) := by
  refine mj_enter (by decide) (Nat.le_of_ble_eq_true rfl) ?_
  refine mv_iload d_TrustDeskModel_pays_0 rfl ?_
  have := mz_hi x4
  refine mv_if_neZ (tgt := 6) (a := x4.toInt) d_TrustDeskModel_pays_2 (by decide) rfl (fun b1 => ?_) (fun b1 => ?_)
  · refine mv_aload_n d_TrustDeskModel_pays_6 rfl rfl ?_
    obtain ⟨a3, q2, t_a3⟩ := tm_atR I0 h_o0 (k := 35) rfl
    refine tr_getK q2 d_TrustDeskModel_pays_7 f_TrustDeskModel_72_13 ?_
    refine mv_iload_n d_TrustDeskModel_pays_10 rfl rfl ?_
    refine mv_dup2_11 d_TrustDeskModel_pays_11 rfl rfl ?_
    refine tr_laldR (o := o0) (k := 35) I0 q2 t_a3 (by decide) d_TrustDeskModel_pays_12 (vp_in_iff.mpr (by omega)) (fun v4 e5 => ?_)
    have := yR.a (k := 35) rfl (x1 : Int32).toNatClampNeg
    refine mv_iload d_TrustDeskModel_pays_13 rfl ?_
    refine mv_i2l (v := x4.toInt64) d_TrustDeskModel_pays_15 rfl ?_
    refine mv_lsub d_TrustDeskModel_pays_16 ?_
    have b6 : ((v4 - x4.toInt64) : Int64).toInt = (v4.toInt - x4.toInt) := mz_subL rfl (mz_wide _) (by omega) (by omega)
    have : ((v4 - x4.toInt64) : Int64).toInt = (v4.toInt - x4.toInt) := b6
    refine tr_lastR (k := 35) I0 yR (I0.up h_o0) q2 t_a3 (by decide) (by decide) (fun lo hi h => by cases h; exact ⟨by show (0 : Int) ≤ (v4 - x4.toInt64).toInt; omega, by show (v4 - x4.toInt64).toInt ≤ (1000000000000000 : Int); omega⟩) (Or.inl (by decide)) d_TrustDeskModel_pays_17 (vp_in_iff.mpr (by omega)) (fun M7 I8 K9 R10 E11 A12 V13 => ?_)
    refine mv_aload_n d_TrustDeskModel_pays_18 rfl rfl ?_
    refine mv_iload_n d_TrustDeskModel_pays_19 rfl rfl ?_
    refine mv_iload d_TrustDeskModel_pays_20 rfl ?_
    obtain ⟨_, b20, -⟩ := I8.1 _ _ h_o0
    refine mv_callV (kc' := 0) (ks' := 0) (As := [.int x1, .int x4]) (st9 := [.int x4, .int x1, .ref o0]) d_TrustDeskModel_pays_22 lV_TrustDeskModel_470 b20 rfl (tc_TrustDeskModel_leadsBack_x (d := d) (x9 := x9) (o0 := o0) (x1 := x1) (x2 := x4) h_o0 (by omega) R10 I8.start) rfl (Nat.le_of_ble_eq_true rfl) (Nat.le_of_ble_eq_true rfl) (Nat.le_of_ble_eq_true rfl) (hst := rfl) (fun b14r M15 n16 b14 => ?_)
    obtain ⟨T17, J18, rfl, R21⟩ := b14
    have I19 := I8.call J18 (tm_sub (by decide)) (Or.inl rfl)
    have t22 := J18.up h_o0
    have q23 := J18.keep h_o0 (by decide) (K9 _ 13 35 _ q2)
    have t24 := J18.up t_a3
    refine mv_aload_n d_TrustDeskModel_pays_25 rfl rfl ?_
    obtain ⟨v26, q25⟩ := tm_atI I19 t22 (k := 51) rfl
    refine tr_getK q25 d_TrustDeskModel_pays_26 f_TrustDeskModel_474_13 ?_
    have := R21.f (k := 51) q25 rfl
    refine mv_sipush (v := 600) d_TrustDeskModel_pays_29 (by decide) ?_
    have := mz_hi v26
    refine mv_icmp_neZ (tgt := 36) (a := v26.toInt) (b := 600) d_TrustDeskModel_pays_32 (by decide) rfl (by decide) (fun b27 => ?_) (fun b27 => ?_)
    · refine mv_aload_n d_TrustDeskModel_pays_36 rfl rfl ?_
      obtain ⟨a29, q28, t_a29⟩ := tm_atR I19 t22 (k := 52) rfl
      refine tr_getK q28 d_TrustDeskModel_pays_37 f_TrustDeskModel_119_13 ?_
      refine mv_iconst (v := 4) d_TrustDeskModel_pays_40 (by decide) ?_
      refine mv_aload_n d_TrustDeskModel_pays_41 rfl rfl ?_
      refine tr_getK (k := 51) q25 d_TrustDeskModel_pays_42 f_TrustDeskModel_474_13 ?_
      refine mv_imul d_TrustDeskModel_pays_45 ?_
      refine mv_iload_n d_TrustDeskModel_pays_46 rfl rfl ?_
      have b30 : (4 * v26 : Int32).toInt = (4 * v26.toInt) := mz_mul2 (by decide) rfl (by omega) (by omega)
      refine tr_iastR (k := 52) I19 R21 (I19.up h_o0) q28 t_a29 (by decide) (by decide) (fun lo hi h => by cases h) (Or.inl (by decide)) d_TrustDeskModel_pays_47 (vp_in_iff.mpr (by omega)) (fun M31 I32 K33 R34 E35 A36 V37 => ?_)
      refine mv_aload_n d_TrustDeskModel_pays_48 rfl rfl ?_
      refine tr_getK (k := 52) (K33 _ 13 52 _ q28) d_TrustDeskModel_pays_49 f_TrustDeskModel_119_13 ?_
      refine mv_iconst (v := 4) d_TrustDeskModel_pays_52 (by decide) ?_
      refine mv_aload_n d_TrustDeskModel_pays_53 rfl rfl ?_
      refine tr_getK (k := 51) (K33 _ 13 51 _ q25) d_TrustDeskModel_pays_54 f_TrustDeskModel_474_13 ?_
      refine mv_imul d_TrustDeskModel_pays_57 ?_
      refine mv_iconst (v := 1) d_TrustDeskModel_pays_58 (by decide) ?_
      refine mv_iadd d_TrustDeskModel_pays_59 ?_
      refine mv_iload_n d_TrustDeskModel_pays_60 rfl rfl ?_
      have b38 : (4 * v26 : Int32).toInt = (4 * v26.toInt) := mz_mul2 (by decide) rfl (by omega) (by omega)
      have b39 : ((4 * v26) + 1 : Int32).toInt = ((4 * v26.toInt) + 1) := mz_add2 b38 (by decide) (by omega) (by omega)
      refine tr_iastR (k := 52) I32 R34 (I32.up h_o0) (K33 _ 13 52 _ q28) t_a29 (by decide) (by decide) (fun lo hi h => by cases h) (Or.inl (by decide)) d_TrustDeskModel_pays_61 (vp_in_iff.mpr (by omega)) (fun M40 I41 K42 R43 E44 A45 V46 => ?_)
      refine mv_aload_n d_TrustDeskModel_pays_62 rfl rfl ?_
      refine tr_getK (k := 52) (K42 _ 13 52 _ (K33 _ 13 52 _ q28)) d_TrustDeskModel_pays_63 f_TrustDeskModel_119_13 ?_
      refine mv_iconst (v := 4) d_TrustDeskModel_pays_66 (by decide) ?_
      refine mv_aload_n d_TrustDeskModel_pays_67 rfl rfl ?_
      refine tr_getK (k := 51) (K42 _ 13 51 _ (K33 _ 13 51 _ q25)) d_TrustDeskModel_pays_68 f_TrustDeskModel_474_13 ?_
      refine mv_imul d_TrustDeskModel_pays_71 ?_
      refine mv_iconst (v := 2) d_TrustDeskModel_pays_72 (by decide) ?_
      refine mv_iadd d_TrustDeskModel_pays_73 ?_
      refine mv_iload_n d_TrustDeskModel_pays_74 rfl rfl ?_
      have b47 : (4 * v26 : Int32).toInt = (4 * v26.toInt) := mz_mul2 (by decide) rfl (by omega) (by omega)
      have b48 : ((4 * v26) + 2 : Int32).toInt = ((4 * v26.toInt) + 2) := mz_add2 b47 (by decide) (by omega) (by omega)
      refine tr_iastR (k := 52) I41 R43 (I41.up h_o0) (K42 _ 13 52 _ (K33 _ 13 52 _ q28)) t_a29 (by decide) (by decide) (fun lo hi h => by cases h) (Or.inl (by decide)) d_TrustDeskModel_pays_75 (vp_in_iff.mpr (by omega)) (fun M49 I50 K51 R52 E53 A54 V55 => ?_)
      refine mv_aload_n d_TrustDeskModel_pays_76 rfl rfl ?_
      refine tr_getK (k := 52) (K51 _ 13 52 _ (K42 _ 13 52 _ (K33 _ 13 52 _ q28))) d_TrustDeskModel_pays_77 f_TrustDeskModel_119_13 ?_
      refine mv_iconst (v := 4) d_TrustDeskModel_pays_80 (by decide) ?_
      refine mv_aload_n d_TrustDeskModel_pays_81 rfl rfl ?_
      refine tr_getK (k := 51) (K51 _ 13 51 _ (K42 _ 13 51 _ (K33 _ 13 51 _ q25))) d_TrustDeskModel_pays_82 f_TrustDeskModel_474_13 ?_
      refine mv_imul d_TrustDeskModel_pays_85 ?_
      refine mv_iconst (v := 3) d_TrustDeskModel_pays_86 (by decide) ?_
      refine mv_iadd d_TrustDeskModel_pays_87 ?_
      refine mv_iload d_TrustDeskModel_pays_88 rfl ?_
      have b56 : (4 * v26 : Int32).toInt = (4 * v26.toInt) := mz_mul2 (by decide) rfl (by omega) (by omega)
      have b57 : ((4 * v26) + 3 : Int32).toInt = ((4 * v26.toInt) + 3) := mz_add2 b56 (by decide) (by omega) (by omega)
      refine tr_iastR (k := 52) I50 R52 (I50.up h_o0) (K51 _ 13 52 _ (K42 _ 13 52 _ (K33 _ 13 52 _ q28))) t_a29 (by decide) (by decide) (fun lo hi h => by cases h) (Or.inl (by decide)) d_TrustDeskModel_pays_90 (vp_in_iff.mpr (by omega)) (fun M58 I59 K60 R61 E62 A63 V64 => ?_)
      refine mv_aload_n d_TrustDeskModel_pays_91 rfl rfl ?_
      refine mv_dup d_TrustDeskModel_pays_92 rfl ?_
      refine tr_getK (k := 51) (K60 _ 13 51 _ (K51 _ 13 51 _ (K42 _ 13 51 _ (K33 _ 13 51 _ q25)))) d_TrustDeskModel_pays_93 f_TrustDeskModel_474_13 ?_
      refine mv_iconst (v := 1) d_TrustDeskModel_pays_96 (by decide) ?_
      refine mv_iadd d_TrustDeskModel_pays_97 ?_
      have b65 : (v26 + 1 : Int32).toInt = (v26.toInt + 1) := mz_add2 rfl (by decide) (by omega) (by omega)
      refine tr_putR (k := 51) I59 R61 t22 rfl ⟨_, rfl⟩ (fun _ h => by cases h) rfl (fun lo hi h => by cases h; exact ⟨by show (0 : Int) ≤ (v26 + 1).toInt; omega, by show (v26 + 1).toInt ≤ (600 : Int); omega⟩) (Or.inl (by decide)) d_TrustDeskModel_pays_98 p_TrustDeskModel_474_13 rfl rfl (fun M66 I67 q68 K69 R70 A71 V72 => ?_)
      exact mv_vret d_TrustDeskModel_pays_101 rfl ⟨_, I67, rfl, R70⟩
    · exact mv_vret d_TrustDeskModel_pays_35 rfl ⟨_, I19, rfl, R21⟩
  · exact mv_vret d_TrustDeskModel_pays_5 rfl ⟨_, I0, rfl, yR⟩
abbrev kY_TrustDeskModel_trustees : mj_Y := (⟨"TrustDeskModel", "trustees", "(I)I"⟩, prog_14_method_69_code, 4, (Option.some Jvm.ClassFile.FieldType.int))
theorem d_TrustDeskModel_trustees_0 : decode kY_TrustDeskModel_trustees.2.1 0 = .ok (.iconst 0, 1) := by decide +kernel
theorem d_TrustDeskModel_trustees_1 : decode kY_TrustDeskModel_trustees.2.1 1 = .ok (.istore_n 2, 1) := by decide +kernel
theorem d_TrustDeskModel_trustees_2 : decode kY_TrustDeskModel_trustees.2.1 2 = .ok (.iconst 0, 1) := by decide +kernel
theorem d_TrustDeskModel_trustees_3 : decode kY_TrustDeskModel_trustees.2.1 3 = .ok (.istore_n 3, 1) := by decide +kernel
theorem d_TrustDeskModel_trustees_4 : decode kY_TrustDeskModel_trustees.2.1 4 = .ok (.iload_n 3, 1) := by decide +kernel
theorem d_TrustDeskModel_trustees_5 : decode kY_TrustDeskModel_trustees.2.1 5 = .ok (.bipush 100, 2) := by decide +kernel
theorem d_TrustDeskModel_trustees_7 : decode kY_TrustDeskModel_trustees.2.1 7 = .ok (.if_icmp .ge 26, 3) := by decide +kernel
theorem d_TrustDeskModel_trustees_33 : decode kY_TrustDeskModel_trustees.2.1 33 = .ok (.iload_n 2, 1) := by decide +kernel
theorem d_TrustDeskModel_trustees_34 : decode kY_TrustDeskModel_trustees.2.1 34 = .ok (.ireturn, 1) := by decide +kernel
theorem d_TrustDeskModel_trustees_10 : decode kY_TrustDeskModel_trustees.2.1 10 = .ok (.aload_n 0, 1) := by decide +kernel
theorem d_TrustDeskModel_trustees_11 : decode kY_TrustDeskModel_trustees.2.1 11 = .ok (.getfield 88, 3) := by decide +kernel
theorem f_TrustDeskModel_88_13 : mj_fl "TrustDeskModel" 88 13 40 := ⟨kR_TrustDeskModel, kF_TrustDeskModel, 72, "TrustDeskModel", rfl, kg_13, by decide, (mj_in1 (List.mem_of_getElem? (i := 1426) (by decide +kernel)) rfl), Or.inl rfl⟩
theorem d_TrustDeskModel_trustees_14 : decode kY_TrustDeskModel_trustees.2.1 14 = .ok (.bipush 100, 2) := by decide +kernel
theorem d_TrustDeskModel_trustees_16 : decode kY_TrustDeskModel_trustees.2.1 16 = .ok (.iload_n 1, 1) := by decide +kernel
theorem d_TrustDeskModel_trustees_17 : decode kY_TrustDeskModel_trustees.2.1 17 = .ok (.imul, 1) := by decide +kernel
theorem d_TrustDeskModel_trustees_18 : decode kY_TrustDeskModel_trustees.2.1 18 = .ok (.iload_n 3, 1) := by decide +kernel
theorem d_TrustDeskModel_trustees_19 : decode kY_TrustDeskModel_trustees.2.1 19 = .ok (.iadd, 1) := by decide +kernel
theorem d_TrustDeskModel_trustees_20 : decode kY_TrustDeskModel_trustees.2.1 20 = .ok (.baload, 1) := by decide +kernel
theorem d_TrustDeskModel_trustees_21 : decode kY_TrustDeskModel_trustees.2.1 21 = .ok (.ifCond .eq 6, 3) := by decide +kernel
theorem d_TrustDeskModel_trustees_27 : decode kY_TrustDeskModel_trustees.2.1 27 = .ok (.iinc 3 1, 3) := by decide +kernel
theorem d_TrustDeskModel_trustees_30 : decode kY_TrustDeskModel_trustees.2.1 30 = .ok (.goto (-26), 3) := by decide +kernel
theorem d_TrustDeskModel_trustees_24 : decode kY_TrustDeskModel_trustees.2.1 24 = .ok (.iinc 2 1, 3) := by decide +kernel
def w_TrustDeskModel_trustees_x : List Nat := []
set_option maxHeartbeats 100000000 in theorem tc_TrustDeskModel_trustees_x {g : mj_G} {l : Launch} {d : Nat} {T0 : tm_H} {M0 : mj_M} {n0 x9 : Nat} {o0 : Nat} {x1 : Int32} (h_o0 : T0 o0 = some (0, 13, 0)) (hn0 : 0 ≤ x1.toInt ∧ x1.toInt ≤ 11) (yR : rI M0 o0) (I0 : tm_I tm_FT (tm_in w_TrustDeskModel_trustees_x) x9 T0 M0 n0 T0 M0 n0) : mj_Met g l kY_TrustDeskModel_trustees d [.ref o0, .int x1] M0 n0 0 0 (tm_Q tm_FT (tm_in w_TrustDeskModel_trustees_x) x9 T0 M0 n0 (fun r _ M => ∃ v : Int32, r = some (.int v) ∧ rI M o0)) := by
  refine mj_enter (by decide) (Nat.le_of_ble_eq_true rfl) ?_
  refine mv_iconst (v := 0) d_TrustDeskModel_trustees_0 (by decide) ?_
  refine mv_istore_n (lv' := [(2, .int 0), (0, .ref o0), (1, .int x1)]) d_TrustDeskModel_trustees_1 rfl (by decide) rfl ?_
  refine mv_iconst (v := 0) d_TrustDeskModel_trustees_2 (by decide) ?_
  refine mv_istore_n (lv' := [(3, .int 0), (2, .int 0), (0, .ref o0), (1, .int x1)]) d_TrustDeskModel_trustees_3 rfl (by decide) rfl ?_
  have L4_1 : ∀ (k : Nat) (i3_1 : Int32) (i2_1 : Int32) (T_1 : tm_H) (M_1 : mj_M) (n_1 : Nat), tm_I tm_FT (tm_in w_TrustDeskModel_trustees_x) x9 T0 M0 n0 T_1 M_1 n_1 → T_1 o0 = some (0, 13, 0) → 0 ≤ i3_1.toInt → (rI M_1 o0) → 2147483647 - i3_1.toInt < (k : Int) → mj_V g l kY_TrustDeskModel_trustees d 4 [(3, .int i3_1), (2, .int i2_1), (0, .ref o0), (1, .int x1)] [] M_1 n_1 0 0 (tm_Q tm_FT (tm_in w_TrustDeskModel_trustees_x) x9 T0 M0 n0 (fun r _ M => ∃ v : Int32, r = some (.int v) ∧ rI M o0)) := by
    intro k1
    induction k1 with
    | zero =>
      intro i3_1 i2_1 T_1 M_1 n_1 I_1 h_q0_1 iv0_1 kKR_1 hk1
      have := mz_hi i3_1
      have := kKR_1.1 15 _ _ rfl
      have := kKR_1.1 16 _ _ rfl
      have := kKR_1.1 19 _ _ rfl
      omega
    | succ k1 ih1 =>
      intro i3_1 i2_1 T_1 M_1 n_1 I_1 h_q0_1 iv0_1 kKR_1 hk1
      refine mv_iload_n d_TrustDeskModel_trustees_4 rfl rfl ?_
      refine mv_bipush (v := 100) d_TrustDeskModel_trustees_5 (by decide) ?_
      have := mz_hi i3_1
      refine mv_icmp_geZ (tgt := 33) (a := i3_1.toInt) (b := 100) d_TrustDeskModel_trustees_7 (by decide) rfl (by decide) (fun b2 => ?_) (fun b2 => ?_)
      · refine mv_iload_n d_TrustDeskModel_trustees_33 rfl rfl ?_
        exact mv_iret d_TrustDeskModel_trustees_34 rfl (by first | rfl | decide) ⟨_, I_1, _, rfl, kKR_1⟩
      · refine mv_aload_n d_TrustDeskModel_trustees_10 rfl rfl ?_
        obtain ⟨a4, q3, t_a4⟩ := tm_atR I_1 h_q0_1 (k := 40) rfl
        refine tr_getK q3 d_TrustDeskModel_trustees_11 f_TrustDeskModel_88_13 ?_
        refine mv_bipush (v := 100) d_TrustDeskModel_trustees_14 (by decide) ?_
        refine mv_iload_n d_TrustDeskModel_trustees_16 rfl rfl ?_
        refine mv_imul d_TrustDeskModel_trustees_17 ?_
        refine mv_iload_n d_TrustDeskModel_trustees_18 rfl rfl ?_
        refine mv_iadd d_TrustDeskModel_trustees_19 ?_
        have b5 : (100 * x1 : Int32).toInt = (100 * x1.toInt) := mz_mul2 (by decide) rfl (by omega) (by omega)
        have b6 : ((100 * x1) + i3_1 : Int32).toInt = ((100 * x1.toInt) + i3_1.toInt) := mz_add2 b5 rfl (by omega) (by omega)
        refine tr_zaldR (o := o0) (k := 40) I_1 q3 t_a4 (by decide) d_TrustDeskModel_trustees_20 (vp_in_iff.mpr (by omega)) (fun v7 e8 => ?_)
        have := mz_hi v7
        refine mv_if_eqZ (tgt := 27) (a := v7.toInt) d_TrustDeskModel_trustees_21 (by decide) rfl (fun b9 => ?_) (fun b9 => ?_)
        · refine mv_iinc (v := (i3_1 + 1)) (lv' := [(3, .int (i3_1 + 1)), (2, .int i2_1), (0, .ref o0), (1, .int x1)]) d_TrustDeskModel_trustees_27 rfl rfl (by decide) rfl ?_
          refine mv_goto (tgt := 4) d_TrustDeskModel_trustees_30 (by decide) ?_
          have b10 : (i3_1 + 1 : Int32).toInt = (i3_1.toInt + 1) := mz_add2 rfl (by decide) (by omega) (by omega)
          have b11 : (i3_1 + 1).toInt = i3_1.toInt + 1 := mz_addn 1 1 (by decide) (by have := mz_lo i3_1; omega) (by have := mz_hi i3_1; omega)
          exact (ih1 (i3_1 + 1) i2_1 T_1 M_1 n_1 I_1 h_q0_1 (by first | omega | decide | exact fun h9 => absurd (by decide) h9) kKR_1 (by omega))
        · refine mv_iinc (v := (i2_1 + 1)) (lv' := [(2, .int (i2_1 + 1)), (3, .int i3_1), (0, .ref o0), (1, .int x1)]) d_TrustDeskModel_trustees_24 rfl rfl (by decide) rfl ?_
          refine mv_iinc (v := (i3_1 + 1)) (lv' := [(3, .int (i3_1 + 1)), (2, .int (i2_1 + 1)), (0, .ref o0), (1, .int x1)]) d_TrustDeskModel_trustees_27 rfl rfl (by decide) rfl ?_
          refine mv_goto (tgt := 4) d_TrustDeskModel_trustees_30 (by decide) ?_
          have b12 : (i3_1 + 1 : Int32).toInt = (i3_1.toInt + 1) := mz_add2 rfl (by decide) (by omega) (by omega)
          have b13 : (i3_1 + 1).toInt = i3_1.toInt + 1 := mz_addn 1 1 (by decide) (by have := mz_lo i3_1; omega) (by have := mz_hi i3_1; omega)
          exact (ih1 (i3_1 + 1) (i2_1 + 1) T_1 M_1 n_1 I_1 h_q0_1 (by first | omega | decide | exact fun h9 => absurd (by decide) h9) kKR_1 (by omega))
  have : (0 : Int32).toInt = 0 := by decide
  exact mv_less (Nat.zero_le _) (Nat.zero_le _) (L4_1 4294967296 0 0 T0 M0 n0 I0 h_o0 (by first | omega | decide | exact fun h9 => absurd (by decide) h9) yR (by show (2147483647 - (0 : Int) : Int) < _; decide))
abbrev kY_TrustDeskModel_against : mj_Y := (⟨"TrustDeskModel", "against", "(I)I"⟩, prog_14_method_74_code, 4, (Option.some Jvm.ClassFile.FieldType.int))
theorem d_TrustDeskModel_against_0 : decode kY_TrustDeskModel_against.2.1 0 = .ok (.iconst 0, 1) := by decide +kernel
theorem d_TrustDeskModel_against_1 : decode kY_TrustDeskModel_against.2.1 1 = .ok (.istore_n 2, 1) := by decide +kernel
theorem d_TrustDeskModel_against_2 : decode kY_TrustDeskModel_against.2.1 2 = .ok (.iconst 0, 1) := by decide +kernel
theorem d_TrustDeskModel_against_3 : decode kY_TrustDeskModel_against.2.1 3 = .ok (.istore_n 3, 1) := by decide +kernel
theorem d_TrustDeskModel_against_4 : decode kY_TrustDeskModel_against.2.1 4 = .ok (.iload_n 3, 1) := by decide +kernel
theorem d_TrustDeskModel_against_5 : decode kY_TrustDeskModel_against.2.1 5 = .ok (.bipush 100, 2) := by decide +kernel
theorem d_TrustDeskModel_against_7 : decode kY_TrustDeskModel_against.2.1 7 = .ok (.if_icmp .ge 26, 3) := by decide +kernel
theorem d_TrustDeskModel_against_33 : decode kY_TrustDeskModel_against.2.1 33 = .ok (.iload_n 2, 1) := by decide +kernel
theorem d_TrustDeskModel_against_34 : decode kY_TrustDeskModel_against.2.1 34 = .ok (.ireturn, 1) := by decide +kernel
theorem d_TrustDeskModel_against_10 : decode kY_TrustDeskModel_against.2.1 10 = .ok (.aload_n 0, 1) := by decide +kernel
theorem d_TrustDeskModel_against_11 : decode kY_TrustDeskModel_against.2.1 11 = .ok (.getfield 143, 3) := by decide +kernel
theorem f_TrustDeskModel_143_13 : mj_fl "TrustDeskModel" 143 13 61 := ⟨kR_TrustDeskModel, kF_TrustDeskModel, 72, "TrustDeskModel", rfl, kg_13, by decide, (mj_in1 (List.mem_of_getElem? (i := 1447) (by decide +kernel)) rfl), Or.inl rfl⟩
theorem d_TrustDeskModel_against_14 : decode kY_TrustDeskModel_against.2.1 14 = .ok (.bipush 100, 2) := by decide +kernel
theorem d_TrustDeskModel_against_16 : decode kY_TrustDeskModel_against.2.1 16 = .ok (.iload_n 1, 1) := by decide +kernel
theorem d_TrustDeskModel_against_17 : decode kY_TrustDeskModel_against.2.1 17 = .ok (.imul, 1) := by decide +kernel
theorem d_TrustDeskModel_against_18 : decode kY_TrustDeskModel_against.2.1 18 = .ok (.iload_n 3, 1) := by decide +kernel
theorem d_TrustDeskModel_against_19 : decode kY_TrustDeskModel_against.2.1 19 = .ok (.iadd, 1) := by decide +kernel
theorem d_TrustDeskModel_against_20 : decode kY_TrustDeskModel_against.2.1 20 = .ok (.baload, 1) := by decide +kernel
theorem d_TrustDeskModel_against_21 : decode kY_TrustDeskModel_against.2.1 21 = .ok (.ifCond .eq 6, 3) := by decide +kernel
theorem d_TrustDeskModel_against_27 : decode kY_TrustDeskModel_against.2.1 27 = .ok (.iinc 3 1, 3) := by decide +kernel
theorem d_TrustDeskModel_against_30 : decode kY_TrustDeskModel_against.2.1 30 = .ok (.goto (-26), 3) := by decide +kernel
theorem d_TrustDeskModel_against_24 : decode kY_TrustDeskModel_against.2.1 24 = .ok (.iinc 2 1, 3) := by decide +kernel
def w_TrustDeskModel_against_x : List Nat := []
set_option maxHeartbeats 100000000 in theorem tc_TrustDeskModel_against_x {g : mj_G} {l : Launch} {d : Nat} {T0 : tm_H} {M0 : mj_M} {n0 x9 : Nat} {o0 : Nat} {x1 : Int32} (h_o0 : T0 o0 = some (0, 13, 0)) (hn0 : 0 ≤ x1.toInt ∧ x1.toInt ≤ 39) (yR : rI M0 o0) (I0 : tm_I tm_FT (tm_in w_TrustDeskModel_against_x) x9 T0 M0 n0 T0 M0 n0) : mj_Met g l kY_TrustDeskModel_against d [.ref o0, .int x1] M0 n0 0 0 (tm_Q tm_FT (tm_in w_TrustDeskModel_against_x) x9 T0 M0 n0 (fun r _ M => ∃ v : Int32, r = some (.int v) ∧ rI M o0)) := by
  refine mj_enter (by decide) (Nat.le_of_ble_eq_true rfl) ?_
  refine mv_iconst (v := 0) d_TrustDeskModel_against_0 (by decide) ?_
  refine mv_istore_n (lv' := [(2, .int 0), (0, .ref o0), (1, .int x1)]) d_TrustDeskModel_against_1 rfl (by decide) rfl ?_
  refine mv_iconst (v := 0) d_TrustDeskModel_against_2 (by decide) ?_
  refine mv_istore_n (lv' := [(3, .int 0), (2, .int 0), (0, .ref o0), (1, .int x1)]) d_TrustDeskModel_against_3 rfl (by decide) rfl ?_
  have L4_1 : ∀ (k : Nat) (i3_1 : Int32) (i2_1 : Int32) (T_1 : tm_H) (M_1 : mj_M) (n_1 : Nat), tm_I tm_FT (tm_in w_TrustDeskModel_against_x) x9 T0 M0 n0 T_1 M_1 n_1 → T_1 o0 = some (0, 13, 0) → 0 ≤ i3_1.toInt → (rI M_1 o0) → 2147483647 - i3_1.toInt < (k : Int) → mj_V g l kY_TrustDeskModel_against d 4 [(3, .int i3_1), (2, .int i2_1), (0, .ref o0), (1, .int x1)] [] M_1 n_1 0 0 (tm_Q tm_FT (tm_in w_TrustDeskModel_against_x) x9 T0 M0 n0 (fun r _ M => ∃ v : Int32, r = some (.int v) ∧ rI M o0)) := by
    intro k1
    induction k1 with
    | zero =>
      intro i3_1 i2_1 T_1 M_1 n_1 I_1 h_q0_1 iv0_1 kKR_1 hk1
      have := mz_hi i3_1
      have := kKR_1.1 15 _ _ rfl
      have := kKR_1.1 16 _ _ rfl
      have := kKR_1.1 19 _ _ rfl
      omega
    | succ k1 ih1 =>
      intro i3_1 i2_1 T_1 M_1 n_1 I_1 h_q0_1 iv0_1 kKR_1 hk1
      refine mv_iload_n d_TrustDeskModel_against_4 rfl rfl ?_
      refine mv_bipush (v := 100) d_TrustDeskModel_against_5 (by decide) ?_
      have := mz_hi i3_1
      refine mv_icmp_geZ (tgt := 33) (a := i3_1.toInt) (b := 100) d_TrustDeskModel_against_7 (by decide) rfl (by decide) (fun b2 => ?_) (fun b2 => ?_)
      · refine mv_iload_n d_TrustDeskModel_against_33 rfl rfl ?_
        exact mv_iret d_TrustDeskModel_against_34 rfl (by first | rfl | decide) ⟨_, I_1, _, rfl, kKR_1⟩
      · refine mv_aload_n d_TrustDeskModel_against_10 rfl rfl ?_
        obtain ⟨a4, q3, t_a4⟩ := tm_atR I_1 h_q0_1 (k := 61) rfl
        refine tr_getK q3 d_TrustDeskModel_against_11 f_TrustDeskModel_143_13 ?_
        refine mv_bipush (v := 100) d_TrustDeskModel_against_14 (by decide) ?_
        refine mv_iload_n d_TrustDeskModel_against_16 rfl rfl ?_
        refine mv_imul d_TrustDeskModel_against_17 ?_
        refine mv_iload_n d_TrustDeskModel_against_18 rfl rfl ?_
        refine mv_iadd d_TrustDeskModel_against_19 ?_
        have b5 : (100 * x1 : Int32).toInt = (100 * x1.toInt) := mz_mul2 (by decide) rfl (by omega) (by omega)
        have b6 : ((100 * x1) + i3_1 : Int32).toInt = ((100 * x1.toInt) + i3_1.toInt) := mz_add2 b5 rfl (by omega) (by omega)
        refine tr_zaldR (o := o0) (k := 61) I_1 q3 t_a4 (by decide) d_TrustDeskModel_against_20 (vp_in_iff.mpr (by omega)) (fun v7 e8 => ?_)
        have := mz_hi v7
        refine mv_if_eqZ (tgt := 27) (a := v7.toInt) d_TrustDeskModel_against_21 (by decide) rfl (fun b9 => ?_) (fun b9 => ?_)
        · refine mv_iinc (v := (i3_1 + 1)) (lv' := [(3, .int (i3_1 + 1)), (2, .int i2_1), (0, .ref o0), (1, .int x1)]) d_TrustDeskModel_against_27 rfl rfl (by decide) rfl ?_
          refine mv_goto (tgt := 4) d_TrustDeskModel_against_30 (by decide) ?_
          have b10 : (i3_1 + 1 : Int32).toInt = (i3_1.toInt + 1) := mz_add2 rfl (by decide) (by omega) (by omega)
          have b11 : (i3_1 + 1).toInt = i3_1.toInt + 1 := mz_addn 1 1 (by decide) (by have := mz_lo i3_1; omega) (by have := mz_hi i3_1; omega)
          exact (ih1 (i3_1 + 1) i2_1 T_1 M_1 n_1 I_1 h_q0_1 (by first | omega | decide | exact fun h9 => absurd (by decide) h9) kKR_1 (by omega))
        · refine mv_iinc (v := (i2_1 + 1)) (lv' := [(2, .int (i2_1 + 1)), (3, .int i3_1), (0, .ref o0), (1, .int x1)]) d_TrustDeskModel_against_24 rfl rfl (by decide) rfl ?_
          refine mv_iinc (v := (i3_1 + 1)) (lv' := [(3, .int (i3_1 + 1)), (2, .int (i2_1 + 1)), (0, .ref o0), (1, .int x1)]) d_TrustDeskModel_against_27 rfl rfl (by decide) rfl ?_
          refine mv_goto (tgt := 4) d_TrustDeskModel_against_30 (by decide) ?_
          have b12 : (i3_1 + 1 : Int32).toInt = (i3_1.toInt + 1) := mz_add2 rfl (by decide) (by omega) (by omega)
          have b13 : (i3_1 + 1).toInt = i3_1.toInt + 1 := mz_addn 1 1 (by decide) (by have := mz_lo i3_1; omega) (by have := mz_hi i3_1; omega)
          exact (ih1 (i3_1 + 1) (i2_1 + 1) T_1 M_1 n_1 I_1 h_q0_1 (by first | omega | decide | exact fun h9 => absurd (by decide) h9) kKR_1 (by omega))
  have : (0 : Int32).toInt = 0 := by decide
  exact mv_less (Nat.zero_le _) (Nat.zero_le _) (L4_1 4294967296 0 0 T0 M0 n0 I0 h_o0 (by first | omega | decide | exact fun h9 => absurd (by decide) h9) yR (by show (2147483647 - (0 : Int) : Int) < _; decide))
abbrev kY_TrustDeskModel_saidSo : mj_Y := (⟨"TrustDeskModel", "saidSo", "(II)I"⟩, prog_14_method_88_code, 5, (Option.some Jvm.ClassFile.FieldType.int))
theorem d_TrustDeskModel_saidSo_0 : decode kY_TrustDeskModel_saidSo.2.1 0 = .ok (.iconst 0, 1) := by decide +kernel
theorem d_TrustDeskModel_saidSo_1 : decode kY_TrustDeskModel_saidSo.2.1 1 = .ok (.istore_n 3, 1) := by decide +kernel
theorem d_TrustDeskModel_saidSo_2 : decode kY_TrustDeskModel_saidSo.2.1 2 = .ok (.iconst 0, 1) := by decide +kernel
theorem d_TrustDeskModel_saidSo_3 : decode kY_TrustDeskModel_saidSo.2.1 3 = .ok (.istore 4, 2) := by decide +kernel
theorem d_TrustDeskModel_saidSo_5 : decode kY_TrustDeskModel_saidSo.2.1 5 = .ok (.iload 4, 2) := by decide +kernel
theorem d_TrustDeskModel_saidSo_7 : decode kY_TrustDeskModel_saidSo.2.1 7 = .ok (.bipush 100, 2) := by decide +kernel
theorem d_TrustDeskModel_saidSo_9 : decode kY_TrustDeskModel_saidSo.2.1 9 = .ok (.if_icmp .ge 28, 3) := by decide +kernel
theorem d_TrustDeskModel_saidSo_37 : decode kY_TrustDeskModel_saidSo.2.1 37 = .ok (.iload_n 3, 1) := by decide +kernel
theorem d_TrustDeskModel_saidSo_38 : decode kY_TrustDeskModel_saidSo.2.1 38 = .ok (.ireturn, 1) := by decide +kernel
theorem d_TrustDeskModel_saidSo_12 : decode kY_TrustDeskModel_saidSo.2.1 12 = .ok (.aload_n 0, 1) := by decide +kernel
theorem d_TrustDeskModel_saidSo_13 : decode kY_TrustDeskModel_saidSo.2.1 13 = .ok (.getfield 146, 3) := by decide +kernel
theorem f_TrustDeskModel_146_13 : mj_fl "TrustDeskModel" 146 13 62 := ⟨kR_TrustDeskModel, kF_TrustDeskModel, 72, "TrustDeskModel", rfl, kg_13, by decide, (mj_in1 (List.mem_of_getElem? (i := 1448) (by decide +kernel)) rfl), Or.inl rfl⟩
theorem d_TrustDeskModel_saidSo_16 : decode kY_TrustDeskModel_saidSo.2.1 16 = .ok (.bipush 100, 2) := by decide +kernel
theorem d_TrustDeskModel_saidSo_18 : decode kY_TrustDeskModel_saidSo.2.1 18 = .ok (.iload_n 1, 1) := by decide +kernel
theorem d_TrustDeskModel_saidSo_19 : decode kY_TrustDeskModel_saidSo.2.1 19 = .ok (.imul, 1) := by decide +kernel
theorem d_TrustDeskModel_saidSo_20 : decode kY_TrustDeskModel_saidSo.2.1 20 = .ok (.iload 4, 2) := by decide +kernel
theorem d_TrustDeskModel_saidSo_22 : decode kY_TrustDeskModel_saidSo.2.1 22 = .ok (.iadd, 1) := by decide +kernel
theorem d_TrustDeskModel_saidSo_23 : decode kY_TrustDeskModel_saidSo.2.1 23 = .ok (.iaload, 1) := by decide +kernel
theorem d_TrustDeskModel_saidSo_24 : decode kY_TrustDeskModel_saidSo.2.1 24 = .ok (.iload_n 2, 1) := by decide +kernel
theorem d_TrustDeskModel_saidSo_25 : decode kY_TrustDeskModel_saidSo.2.1 25 = .ok (.if_icmp .ne 6, 3) := by decide +kernel
theorem d_TrustDeskModel_saidSo_31 : decode kY_TrustDeskModel_saidSo.2.1 31 = .ok (.iinc 4 1, 3) := by decide +kernel
theorem d_TrustDeskModel_saidSo_34 : decode kY_TrustDeskModel_saidSo.2.1 34 = .ok (.goto (-29), 3) := by decide +kernel
theorem d_TrustDeskModel_saidSo_28 : decode kY_TrustDeskModel_saidSo.2.1 28 = .ok (.iinc 3 1, 3) := by decide +kernel
def w_TrustDeskModel_saidSo_x : List Nat := []
set_option maxHeartbeats 100000000 in theorem tc_TrustDeskModel_saidSo_x {g : mj_G} {l : Launch} {d : Nat} {T0 : tm_H} {M0 : mj_M} {n0 x9 : Nat} {o0 : Nat} {x1 : Int32} {x2 : Int32} (h_o0 : T0 o0 = some (0, 13, 0)) (hn0 : 0 ≤ x1.toInt ∧ x1.toInt ≤ 39) (yR : rI M0 o0) (I0 : tm_I tm_FT (tm_in w_TrustDeskModel_saidSo_x) x9 T0 M0 n0 T0 M0 n0) : mj_Met g l kY_TrustDeskModel_saidSo d [.ref o0, .int x1, .int x2] M0 n0 0 0 (tm_Q tm_FT (tm_in w_TrustDeskModel_saidSo_x) x9 T0 M0 n0 (fun r _ M => ∃ v : Int32, r = some (.int v) ∧ rI M o0)) := by
  refine mj_enter (by decide) (Nat.le_of_ble_eq_true rfl) ?_
  refine mv_iconst (v := 0) d_TrustDeskModel_saidSo_0 (by decide) ?_
  refine mv_istore_n (lv' := [(3, .int 0), (0, .ref o0), (1, .int x1), (2, .int x2)]) d_TrustDeskModel_saidSo_1 rfl (by decide) rfl ?_
  refine mv_iconst (v := 0) d_TrustDeskModel_saidSo_2 (by decide) ?_
  refine mv_istore (lv' := [(4, .int 0), (3, .int 0), (0, .ref o0), (1, .int x1), (2, .int x2)]) d_TrustDeskModel_saidSo_3 (by decide) rfl ?_
  have L5_1 : ∀ (k : Nat) (i4_1 : Int32) (i3_1 : Int32) (T_1 : tm_H) (M_1 : mj_M) (n_1 : Nat), tm_I tm_FT (tm_in w_TrustDeskModel_saidSo_x) x9 T0 M0 n0 T_1 M_1 n_1 → T_1 o0 = some (0, 13, 0) → 0 ≤ i4_1.toInt → (rI M_1 o0) → 2147483647 - i4_1.toInt < (k : Int) → mj_V g l kY_TrustDeskModel_saidSo d 5 [(4, .int i4_1), (3, .int i3_1), (0, .ref o0), (1, .int x1), (2, .int x2)] [] M_1 n_1 0 0 (tm_Q tm_FT (tm_in w_TrustDeskModel_saidSo_x) x9 T0 M0 n0 (fun r _ M => ∃ v : Int32, r = some (.int v) ∧ rI M o0)) := by
    intro k1
    induction k1 with
    | zero =>
      intro i4_1 i3_1 T_1 M_1 n_1 I_1 h_q0_1 iv0_1 kKR_1 hk1
      have := mz_hi i4_1
      have := kKR_1.1 15 _ _ rfl
      have := kKR_1.1 16 _ _ rfl
      have := kKR_1.1 19 _ _ rfl
      omega
    | succ k1 ih1 =>
      intro i4_1 i3_1 T_1 M_1 n_1 I_1 h_q0_1 iv0_1 kKR_1 hk1
      refine mv_iload d_TrustDeskModel_saidSo_5 rfl ?_
      refine mv_bipush (v := 100) d_TrustDeskModel_saidSo_7 (by decide) ?_
      have := mz_hi i4_1
      refine mv_icmp_geZ (tgt := 37) (a := i4_1.toInt) (b := 100) d_TrustDeskModel_saidSo_9 (by decide) rfl (by decide) (fun b2 => ?_) (fun b2 => ?_)
      · refine mv_iload_n d_TrustDeskModel_saidSo_37 rfl rfl ?_
        exact mv_iret d_TrustDeskModel_saidSo_38 rfl (by first | rfl | decide) ⟨_, I_1, _, rfl, kKR_1⟩
      · refine mv_aload_n d_TrustDeskModel_saidSo_12 rfl rfl ?_
        obtain ⟨a4, q3, t_a4⟩ := tm_atR I_1 h_q0_1 (k := 62) rfl
        refine tr_getK q3 d_TrustDeskModel_saidSo_13 f_TrustDeskModel_146_13 ?_
        refine mv_bipush (v := 100) d_TrustDeskModel_saidSo_16 (by decide) ?_
        refine mv_iload_n d_TrustDeskModel_saidSo_18 rfl rfl ?_
        refine mv_imul d_TrustDeskModel_saidSo_19 ?_
        refine mv_iload d_TrustDeskModel_saidSo_20 rfl ?_
        refine mv_iadd d_TrustDeskModel_saidSo_22 ?_
        have b5 : (100 * x1 : Int32).toInt = (100 * x1.toInt) := mz_mul2 (by decide) rfl (by omega) (by omega)
        have b6 : ((100 * x1) + i4_1 : Int32).toInt = ((100 * x1.toInt) + i4_1.toInt) := mz_add2 b5 rfl (by omega) (by omega)
        refine tr_ialdR (o := o0) (k := 62) I_1 q3 t_a4 (by decide) d_TrustDeskModel_saidSo_23 (vp_in_iff.mpr (by omega)) (fun v7 e8 => ?_)
        refine mv_iload_n d_TrustDeskModel_saidSo_24 rfl rfl ?_
        have := mz_hi v7
        have := mz_hi x2
        refine mv_icmp_neZ (tgt := 31) (a := v7.toInt) (b := x2.toInt) d_TrustDeskModel_saidSo_25 (by decide) rfl rfl (fun b9 => ?_) (fun b9 => ?_)
        · refine mv_iinc (v := (i4_1 + 1)) (lv' := [(4, .int (i4_1 + 1)), (3, .int i3_1), (0, .ref o0), (1, .int x1), (2, .int x2)]) d_TrustDeskModel_saidSo_31 rfl rfl (by decide) rfl ?_
          refine mv_goto (tgt := 5) d_TrustDeskModel_saidSo_34 (by decide) ?_
          have b10 : (i4_1 + 1 : Int32).toInt = (i4_1.toInt + 1) := mz_add2 rfl (by decide) (by omega) (by omega)
          have b11 : (i4_1 + 1).toInt = i4_1.toInt + 1 := mz_addn 1 1 (by decide) (by have := mz_lo i4_1; omega) (by have := mz_hi i4_1; omega)
          exact (ih1 (i4_1 + 1) i3_1 T_1 M_1 n_1 I_1 h_q0_1 (by first | omega | decide | exact fun h9 => absurd (by decide) h9) kKR_1 (by omega))
        · refine mv_iinc (v := (i3_1 + 1)) (lv' := [(3, .int (i3_1 + 1)), (4, .int i4_1), (0, .ref o0), (1, .int x1), (2, .int x2)]) d_TrustDeskModel_saidSo_28 rfl rfl (by decide) rfl ?_
          refine mv_iinc (v := (i4_1 + 1)) (lv' := [(4, .int (i4_1 + 1)), (3, .int (i3_1 + 1)), (0, .ref o0), (1, .int x1), (2, .int x2)]) d_TrustDeskModel_saidSo_31 rfl rfl (by decide) rfl ?_
          refine mv_goto (tgt := 5) d_TrustDeskModel_saidSo_34 (by decide) ?_
          have b12 : (i4_1 + 1 : Int32).toInt = (i4_1.toInt + 1) := mz_add2 rfl (by decide) (by omega) (by omega)
          have b13 : (i4_1 + 1).toInt = i4_1.toInt + 1 := mz_addn 1 1 (by decide) (by have := mz_lo i4_1; omega) (by have := mz_hi i4_1; omega)
          exact (ih1 (i4_1 + 1) (i3_1 + 1) T_1 M_1 n_1 I_1 h_q0_1 (by first | omega | decide | exact fun h9 => absurd (by decide) h9) kKR_1 (by omega))
  have : (0 : Int32).toInt = 0 := by decide
  exact mv_less (Nat.zero_le _) (Nat.zero_le _) (L5_1 4294967296 0 0 T0 M0 n0 I0 h_o0 (by first | omega | decide | exact fun h9 => absurd (by decide) h9) yR (by show (2147483647 - (0 : Int) : Int) < _; decide))
abbrev kY_TrustDeskModel_worth : mj_Y := (⟨"TrustDeskModel", "worth", "(I)J"⟩, prog_14_method_84_code, 2, (Option.some Jvm.ClassFile.FieldType.long))
theorem d_TrustDeskModel_worth_0 : decode kY_TrustDeskModel_worth.2.1 0 = .ok (.ldc2_w 533, 3) := by decide +kernel
theorem k_TrustDeskModel_533 : Cond.constantLong "TrustDeskModel" 533 1000000000000 ∈ mj_T := (mj_in1 (List.mem_of_getElem? (i := 1989) (by decide +kernel)) rfl)
theorem d_TrustDeskModel_worth_3 : decode kY_TrustDeskModel_worth.2.1 3 = .ok (.aload_n 0, 1) := by decide +kernel
theorem d_TrustDeskModel_worth_4 : decode kY_TrustDeskModel_worth.2.1 4 = .ok (.getfield 72, 3) := by decide +kernel
theorem d_TrustDeskModel_worth_7 : decode kY_TrustDeskModel_worth.2.1 7 = .ok (.iload_n 1, 1) := by decide +kernel
theorem d_TrustDeskModel_worth_8 : decode kY_TrustDeskModel_worth.2.1 8 = .ok (.laload, 1) := by decide +kernel
theorem d_TrustDeskModel_worth_9 : decode kY_TrustDeskModel_worth.2.1 9 = .ok (.ldc2_w 535, 3) := by decide +kernel
theorem k_TrustDeskModel_535 : Cond.constantLong "TrustDeskModel" 535 20 ∈ mj_T := (mj_in1 (List.mem_of_getElem? (i := 1990) (by decide +kernel)) rfl)
theorem d_TrustDeskModel_worth_12 : decode kY_TrustDeskModel_worth.2.1 12 = .ok (.aload_n 0, 1) := by decide +kernel
theorem d_TrustDeskModel_worth_13 : decode kY_TrustDeskModel_worth.2.1 13 = .ok (.iload_n 1, 1) := by decide +kernel
theorem d_TrustDeskModel_worth_14 : decode kY_TrustDeskModel_worth.2.1 14 = .ok (.aload_n 0, 1) := by decide +kernel
theorem d_TrustDeskModel_worth_15 : decode kY_TrustDeskModel_worth.2.1 15 = .ok (.invokevirtual 518, 3) := by decide +kernel
abbrev kY_TrustDeskModel_year : mj_Y := (⟨"TrustDeskModel", "year", "()I"⟩, prog_14_method_5_code, 1, (Option.some Jvm.ClassFile.FieldType.int))
theorem lV_TrustDeskModel_518 : mj_lV "TrustDeskModel" 518 kY_TrustDeskModel_year 0 := ⟨⟨(mj_in1 (List.mem_of_getElem? (i := 1965) (by decide +kernel)) rfl), (mj_in1 (List.mem_of_getElem? (i := 10) (by decide +kernel)) rfl), (mj_in1 (List.mem_of_getElem? (i := 1968) (by decide +kernel)) rfl), by decide, rfl, by decide⟩, (mj_in1 (List.mem_of_getElem? (i := 1967) (by decide +kernel)) rfl), (mj_in (List.mem_append_left _ (List.mem_of_getElem? (i := 131) (by decide +kernel))) rfl)⟩
theorem d_TrustDeskModel_year_0 : decode kY_TrustDeskModel_year.2.1 0 = .ok (.aload_n 0, 1) := by decide +kernel
theorem d_TrustDeskModel_year_1 : decode kY_TrustDeskModel_year.2.1 1 = .ok (.getfield 164, 3) := by decide +kernel
theorem f_TrustDeskModel_164_13 : mj_fl "TrustDeskModel" 164 13 1 := ⟨kR_TrustDeskModel, kF_TrustDeskModel, 72, "TrustDeskModel", rfl, kg_13, by decide, (mj_in1 (List.mem_of_getElem? (i := 1387) (by decide +kernel)) rfl), Or.inl rfl⟩
theorem d_TrustDeskModel_year_4 : decode kY_TrustDeskModel_year.2.1 4 = .ok (.sipush 360, 3) := by decide +kernel
theorem d_TrustDeskModel_year_7 : decode kY_TrustDeskModel_year.2.1 7 = .ok (.idiv, 1) := by decide +kernel
theorem d_TrustDeskModel_year_8 : decode kY_TrustDeskModel_year.2.1 8 = .ok (.ireturn, 1) := by decide +kernel
theorem d_TrustDeskModel_worth_18 : decode kY_TrustDeskModel_worth.2.1 18 = .ok (.aload_n 0, 1) := by decide +kernel
theorem d_TrustDeskModel_worth_19 : decode kY_TrustDeskModel_worth.2.1 19 = .ok (.getfield 164, 3) := by decide +kernel
theorem d_TrustDeskModel_worth_22 : decode kY_TrustDeskModel_worth.2.1 22 = .ok (.invokevirtual 438, 3) := by decide +kernel
theorem d_TrustDeskModel_worth_25 : decode kY_TrustDeskModel_worth.2.1 25 = .ok (.i2l, 1) := by decide +kernel
theorem d_TrustDeskModel_worth_26 : decode kY_TrustDeskModel_worth.2.1 26 = .ok (.lmul, 1) := by decide +kernel
theorem d_TrustDeskModel_worth_27 : decode kY_TrustDeskModel_worth.2.1 27 = .ok (.ladd, 1) := by decide +kernel
theorem d_TrustDeskModel_worth_28 : decode kY_TrustDeskModel_worth.2.1 28 = .ok (.invokestatic 537, 3) := by decide +kernel
theorem d_TrustDeskModel_worth_31 : decode kY_TrustDeskModel_worth.2.1 31 = .ok (.lreturn, 1) := by decide +kernel
def w_TrustDeskModel_worth_x : List Nat := []
set_option maxHeartbeats 100000000 in theorem tc_TrustDeskModel_worth_x {g : mj_G} {l : Launch} {d : Nat} {T0 : tm_H} {M0 : mj_M} {n0 x9 : Nat} {o0 : Nat} {x1 : Int32} (h_o0 : T0 o0 = some (0, 13, 0)) (hn0 : 0 ≤ x1.toInt ∧ x1.toInt ≤ 11) (yR : rI M0 o0) (I0 : tm_I tm_FT (tm_in w_TrustDeskModel_worth_x) x9 T0 M0 n0 T0 M0 n0) : mj_Met g l kY_TrustDeskModel_worth (d + 2) [.ref o0, .int x1] M0 n0 0 0 (tm_Q tm_FT (tm_in w_TrustDeskModel_worth_x) x9 T0 M0 n0 (fun r _ M => ∃ v : Int64, r = some (.long v) ∧ rI M o0 ∧ (0 ≤ v.toInt ∧ v.toInt ≤ 1000000000000))) := by
  refine mj_enter (by decide) (Nat.le_of_ble_eq_true rfl) ?_
  refine mv_ldc2 d_TrustDeskModel_worth_0 k_TrustDeskModel_533 ?_
  refine mv_aload_n d_TrustDeskModel_worth_3 rfl rfl ?_
  obtain ⟨a2, q1, t_a2⟩ := tm_atR I0 h_o0 (k := 35) rfl
  refine tr_getK q1 d_TrustDeskModel_worth_4 f_TrustDeskModel_72_13 ?_
  refine mv_iload_n d_TrustDeskModel_worth_7 rfl rfl ?_
  refine tr_laldR (o := o0) (k := 35) I0 q1 t_a2 (by decide) d_TrustDeskModel_worth_8 (vp_in_iff.mpr (by omega)) (fun v3 e4 => ?_)
  have := yR.a (k := 35) rfl (x1 : Int32).toNatClampNeg
  refine mv_ldc2 d_TrustDeskModel_worth_9 k_TrustDeskModel_535 ?_
  refine mv_aload_n d_TrustDeskModel_worth_12 rfl rfl ?_
  refine mv_iload_n d_TrustDeskModel_worth_13 rfl rfl ?_
  refine mv_aload_n d_TrustDeskModel_worth_14 rfl rfl ?_
  obtain ⟨_, b5, -⟩ := I0.1 _ _ h_o0
  refine mv_callV (kc1 := 0) (ks1 := 0) (kc' := 0) (ks' := 0) (As := []) (st9 := [.ref o0, .int x1, .ref o0, .long 20, .long v3, .long 1000000000000]) d_TrustDeskModel_worth_15 lV_TrustDeskModel_518 b5 rfl (mj_enter (by decide) (Nat.le_of_ble_eq_true rfl) ?_) rfl (Nat.le_of_ble_eq_true rfl) (Nat.le_of_ble_eq_true rfl) (Nat.le_of_ble_eq_true rfl) (hst := rfl) (fun _ _ _ h => h)
  refine mv_aload_n d_TrustDeskModel_year_0 rfl rfl ?_
  obtain ⟨v7, q6⟩ := tm_atI I0 h_o0 (k := 1) rfl
  refine tr_getK q6 d_TrustDeskModel_year_1 f_TrustDeskModel_164_13 ?_
  have := yR.f (k := 1) q6 rfl
  refine mv_sipush (v := 360) d_TrustDeskModel_year_4 (by decide) ?_
  have : (v7 / 360 : Int32).toInt = v7.toInt / 360 := mz_div (by decide) (by decide) (by omega)
  refine mv_idiv d_TrustDeskModel_year_7 (by decide) ?_
  refine mv_iret d_TrustDeskModel_year_8 rfl (by first | rfl | decide) ?_
  refine mv_aload_n d_TrustDeskModel_worth_18 rfl rfl ?_
  refine tr_getK (k := 1) q6 d_TrustDeskModel_worth_19 f_TrustDeskModel_164_13 ?_
  obtain ⟨_, b14, -⟩ := I0.1 _ _ h_o0
  refine mv_callV (kc' := 0) (ks' := 0) (As := [.int x1, .int (v7 / 360), .int v7]) (st9 := [.int v7, .int (v7 / 360), .int x1, .ref o0, .long 20, .long v3, .long 1000000000000]) d_TrustDeskModel_worth_22 lV_TrustDeskModel_438 b14 rfl (tc_TrustDeskModel_incomeOf_x (d := d) (x9 := x9) (o0 := o0) (x1 := x1) (x2 := (v7 / 360)) (x3 := v7) h_o0 (by omega) yR I0.start) rfl (Nat.le_of_ble_eq_true rfl) (Nat.le_of_ble_eq_true rfl) (Nat.le_of_ble_eq_true rfl) (hst := rfl) (fun b8r M9 n10 b8 => ?_)
  obtain ⟨T11, J12, v15, rfl, R16, f17⟩ := b8
  have I13 := I0.call J12 (tm_sub (by decide)) (Or.inl rfl)
  have t18 := J12.up h_o0
  have q19 := J12.keep h_o0 (by decide) q1
  have t20 := J12.up t_a2
  have q21 := J12.keep h_o0 (by decide) q6
  refine mv_i2l (v := v15.toInt64) d_TrustDeskModel_worth_25 rfl ?_
  refine mv_lmul d_TrustDeskModel_worth_26 ?_
  refine mv_ladd d_TrustDeskModel_worth_27 ?_
  have : (1000000000000 : Int64).toInt = 1000000000000 := by decide
  have : (20 : Int64).toInt = 20 := (by decide)
  have : (v15.toInt64 : Int64).toInt = v15.toInt := (mz_wide _)
  have := mz_mulLb (x := 20) (y := v15.toInt64) (A := 20) (B := 36063999) (by omega) (by omega) (by omega) (by omega) (by omega)
  have b25 : ((v3 + (20 * v15.toInt64)) : Int64).toInt = (v3.toInt + (20 * v15.toInt64).toInt) := mz_addL rfl rfl (by omega) (by omega)
  have : ((v3 + (20 * v15.toInt64)) : Int64).toInt = (v3.toInt + (20 * v15.toInt64).toInt) := b25
  obtain ⟨v22, b23, _, _, _⟩ := mz_min9L (1000000000000 : Int64) (v3 + (20 * v15.toInt64))
  refine mv_mmin_long (v := v22) d_TrustDeskModel_worth_28 (mj_in1 (List.mem_of_getElem? (i := 1991) (by decide +kernel)) rfl) (Nat.le_of_ble_eq_true rfl) b23 ?_
  exact mv_lret d_TrustDeskModel_worth_31 rfl ⟨_, I13, _, rfl, R16, (by omega)⟩
