abbrev kY_TrustDeskModel_isThere : mj_Y := (⟨"TrustDeskModel", "isThere", "()Z"⟩, prog_14_method_36_code, 5, (Option.some Jvm.ClassFile.FieldType.boolean))
theorem d_TrustDeskModel_isThere_0 : decode kY_TrustDeskModel_isThere.2.1 0 = .ok (.iconst 0, 1) := by decide +kernel
theorem d_TrustDeskModel_isThere_1 : decode kY_TrustDeskModel_isThere.2.1 1 = .ok (.istore_n 1, 1) := by decide +kernel
theorem d_TrustDeskModel_isThere_2 : decode kY_TrustDeskModel_isThere.2.1 2 = .ok (.iconst 0, 1) := by decide +kernel
theorem d_TrustDeskModel_isThere_3 : decode kY_TrustDeskModel_isThere.2.1 3 = .ok (.istore_n 2, 1) := by decide +kernel
theorem d_TrustDeskModel_isThere_4 : decode kY_TrustDeskModel_isThere.2.1 4 = .ok (.iload_n 2, 1) := by decide +kernel
theorem d_TrustDeskModel_isThere_5 : decode kY_TrustDeskModel_isThere.2.1 5 = .ok (.aload_n 0, 1) := by decide +kernel
theorem d_TrustDeskModel_isThere_6 : decode kY_TrustDeskModel_isThere.2.1 6 = .ok (.getfield 321, 3) := by decide +kernel
theorem f_TrustDeskModel_321_13 : mj_fl "TrustDeskModel" 321 13 24 := ⟨kR_TrustDeskModel, kF_TrustDeskModel, 72, "TrustDeskModel", rfl, kg_13, by decide, (mj_in1 (List.mem_of_getElem? (i := 1410) (by decide +kernel)) rfl), Or.inl rfl⟩
theorem d_TrustDeskModel_isThere_9 : decode kY_TrustDeskModel_isThere.2.1 9 = .ok (.if_icmp .ge 106, 3) := by decide +kernel
theorem d_TrustDeskModel_isThere_115 : decode kY_TrustDeskModel_isThere.2.1 115 = .ok (.iload_n 1, 1) := by decide +kernel
theorem d_TrustDeskModel_isThere_116 : decode kY_TrustDeskModel_isThere.2.1 116 = .ok (.ireturn, 1) := by decide +kernel
theorem d_TrustDeskModel_isThere_12 : decode kY_TrustDeskModel_isThere.2.1 12 = .ok (.aload_n 0, 1) := by decide +kernel
theorem d_TrustDeskModel_isThere_13 : decode kY_TrustDeskModel_isThere.2.1 13 = .ok (.getfield 54, 3) := by decide +kernel
theorem f_TrustDeskModel_54_13 : mj_fl "TrustDeskModel" 54 13 26 := ⟨kR_TrustDeskModel, kF_TrustDeskModel, 72, "TrustDeskModel", rfl, kg_13, by decide, (mj_in1 (List.mem_of_getElem? (i := 1412) (by decide +kernel)) rfl), Or.inl rfl⟩
theorem d_TrustDeskModel_isThere_16 : decode kY_TrustDeskModel_isThere.2.1 16 = .ok (.iload_n 2, 1) := by decide +kernel
theorem d_TrustDeskModel_isThere_17 : decode kY_TrustDeskModel_isThere.2.1 17 = .ok (.iaload, 1) := by decide +kernel
theorem d_TrustDeskModel_isThere_18 : decode kY_TrustDeskModel_isThere.2.1 18 = .ok (.aload_n 0, 1) := by decide +kernel
theorem d_TrustDeskModel_isThere_19 : decode kY_TrustDeskModel_isThere.2.1 19 = .ok (.getfield 192, 3) := by decide +kernel
theorem d_TrustDeskModel_isThere_22 : decode kY_TrustDeskModel_isThere.2.1 22 = .ok (.aload_n 0, 1) := by decide +kernel
theorem d_TrustDeskModel_isThere_23 : decode kY_TrustDeskModel_isThere.2.1 23 = .ok (.getfield 195, 3) := by decide +kernel
theorem d_TrustDeskModel_isThere_26 : decode kY_TrustDeskModel_isThere.2.1 26 = .ok (.isub, 1) := by decide +kernel
theorem d_TrustDeskModel_isThere_27 : decode kY_TrustDeskModel_isThere.2.1 27 = .ok (.if_icmp .ne 7, 3) := by decide +kernel
theorem d_TrustDeskModel_isThere_34 : decode kY_TrustDeskModel_isThere.2.1 34 = .ok (.iconst 0, 1) := by decide +kernel
theorem d_TrustDeskModel_isThere_35 : decode kY_TrustDeskModel_isThere.2.1 35 = .ok (.istore_n 3, 1) := by decide +kernel
theorem d_TrustDeskModel_isThere_36 : decode kY_TrustDeskModel_isThere.2.1 36 = .ok (.iconst 0, 1) := by decide +kernel
theorem d_TrustDeskModel_isThere_37 : decode kY_TrustDeskModel_isThere.2.1 37 = .ok (.istore 4, 2) := by decide +kernel
theorem d_TrustDeskModel_isThere_39 : decode kY_TrustDeskModel_isThere.2.1 39 = .ok (.iload 4, 2) := by decide +kernel
theorem d_TrustDeskModel_isThere_41 : decode kY_TrustDeskModel_isThere.2.1 41 = .ok (.aload_n 0, 1) := by decide +kernel
theorem d_TrustDeskModel_isThere_42 : decode kY_TrustDeskModel_isThere.2.1 42 = .ok (.getfield 54, 3) := by decide +kernel
theorem d_TrustDeskModel_isThere_45 : decode kY_TrustDeskModel_isThere.2.1 45 = .ok (.iload_n 2, 1) := by decide +kernel
theorem d_TrustDeskModel_isThere_46 : decode kY_TrustDeskModel_isThere.2.1 46 = .ok (.iaload, 1) := by decide +kernel
theorem d_TrustDeskModel_isThere_47 : decode kY_TrustDeskModel_isThere.2.1 47 = .ok (.if_icmp .ge 48, 3) := by decide +kernel
theorem d_TrustDeskModel_isThere_95 : decode kY_TrustDeskModel_isThere.2.1 95 = .ok (.iload_n 1, 1) := by decide +kernel
theorem d_TrustDeskModel_isThere_96 : decode kY_TrustDeskModel_isThere.2.1 96 = .ok (.ifCond .ne 7, 3) := by decide +kernel
theorem d_TrustDeskModel_isThere_103 : decode kY_TrustDeskModel_isThere.2.1 103 = .ok (.iconst 1, 1) := by decide +kernel
theorem d_TrustDeskModel_isThere_104 : decode kY_TrustDeskModel_isThere.2.1 104 = .ok (.goto 4, 3) := by decide +kernel
theorem d_TrustDeskModel_isThere_108 : decode kY_TrustDeskModel_isThere.2.1 108 = .ok (.istore_n 1, 1) := by decide +kernel
theorem d_TrustDeskModel_isThere_109 : decode kY_TrustDeskModel_isThere.2.1 109 = .ok (.iinc 2 1, 3) := by decide +kernel
theorem d_TrustDeskModel_isThere_112 : decode kY_TrustDeskModel_isThere.2.1 112 = .ok (.goto (-108), 3) := by decide +kernel
theorem d_TrustDeskModel_isThere_99 : decode kY_TrustDeskModel_isThere.2.1 99 = .ok (.iload_n 3, 1) := by decide +kernel
theorem d_TrustDeskModel_isThere_100 : decode kY_TrustDeskModel_isThere.2.1 100 = .ok (.ifCond .eq 7, 3) := by decide +kernel
theorem d_TrustDeskModel_isThere_107 : decode kY_TrustDeskModel_isThere.2.1 107 = .ok (.iconst 0, 1) := by decide +kernel
theorem d_TrustDeskModel_isThere_50 : decode kY_TrustDeskModel_isThere.2.1 50 = .ok (.iload_n 3, 1) := by decide +kernel
theorem d_TrustDeskModel_isThere_51 : decode kY_TrustDeskModel_isThere.2.1 51 = .ok (.ifCond .eq 44, 3) := by decide +kernel
theorem d_TrustDeskModel_isThere_54 : decode kY_TrustDeskModel_isThere.2.1 54 = .ok (.aload_n 0, 1) := by decide +kernel
theorem d_TrustDeskModel_isThere_55 : decode kY_TrustDeskModel_isThere.2.1 55 = .ok (.getfield 44, 3) := by decide +kernel
theorem d_TrustDeskModel_isThere_58 : decode kY_TrustDeskModel_isThere.2.1 58 = .ok (.aload_n 0, 1) := by decide +kernel
theorem d_TrustDeskModel_isThere_59 : decode kY_TrustDeskModel_isThere.2.1 59 = .ok (.getfield 195, 3) := by decide +kernel
theorem d_TrustDeskModel_isThere_62 : decode kY_TrustDeskModel_isThere.2.1 62 = .ok (.iload 4, 2) := by decide +kernel
theorem d_TrustDeskModel_isThere_64 : decode kY_TrustDeskModel_isThere.2.1 64 = .ok (.iadd, 1) := by decide +kernel
theorem d_TrustDeskModel_isThere_65 : decode kY_TrustDeskModel_isThere.2.1 65 = .ok (.baload, 1) := by decide +kernel
theorem d_TrustDeskModel_isThere_66 : decode kY_TrustDeskModel_isThere.2.1 66 = .ok (.aload_n 0, 1) := by decide +kernel
theorem d_TrustDeskModel_isThere_67 : decode kY_TrustDeskModel_isThere.2.1 67 = .ok (.getfield 44, 3) := by decide +kernel
theorem d_TrustDeskModel_isThere_70 : decode kY_TrustDeskModel_isThere.2.1 70 = .ok (.aload_n 0, 1) := by decide +kernel
theorem d_TrustDeskModel_isThere_71 : decode kY_TrustDeskModel_isThere.2.1 71 = .ok (.getfield 51, 3) := by decide +kernel
theorem f_TrustDeskModel_51_13 : mj_fl "TrustDeskModel" 51 13 25 := ⟨kR_TrustDeskModel, kF_TrustDeskModel, 72, "TrustDeskModel", rfl, kg_13, by decide, (mj_in1 (List.mem_of_getElem? (i := 1411) (by decide +kernel)) rfl), Or.inl rfl⟩
theorem d_TrustDeskModel_isThere_74 : decode kY_TrustDeskModel_isThere.2.1 74 = .ok (.iload_n 2, 1) := by decide +kernel
theorem d_TrustDeskModel_isThere_75 : decode kY_TrustDeskModel_isThere.2.1 75 = .ok (.iaload, 1) := by decide +kernel
theorem d_TrustDeskModel_isThere_76 : decode kY_TrustDeskModel_isThere.2.1 76 = .ok (.iload 4, 2) := by decide +kernel
theorem d_TrustDeskModel_isThere_78 : decode kY_TrustDeskModel_isThere.2.1 78 = .ok (.iadd, 1) := by decide +kernel
theorem d_TrustDeskModel_isThere_79 : decode kY_TrustDeskModel_isThere.2.1 79 = .ok (.baload, 1) := by decide +kernel
theorem d_TrustDeskModel_isThere_80 : decode kY_TrustDeskModel_isThere.2.1 80 = .ok (.if_icmp .ne 7, 3) := by decide +kernel
theorem d_TrustDeskModel_isThere_87 : decode kY_TrustDeskModel_isThere.2.1 87 = .ok (.iconst 0, 1) := by decide +kernel
theorem d_TrustDeskModel_isThere_88 : decode kY_TrustDeskModel_isThere.2.1 88 = .ok (.istore_n 3, 1) := by decide +kernel
theorem d_TrustDeskModel_isThere_89 : decode kY_TrustDeskModel_isThere.2.1 89 = .ok (.iinc 4 1, 3) := by decide +kernel
theorem d_TrustDeskModel_isThere_92 : decode kY_TrustDeskModel_isThere.2.1 92 = .ok (.goto (-53), 3) := by decide +kernel
theorem d_TrustDeskModel_isThere_83 : decode kY_TrustDeskModel_isThere.2.1 83 = .ok (.iconst 1, 1) := by decide +kernel
theorem d_TrustDeskModel_isThere_84 : decode kY_TrustDeskModel_isThere.2.1 84 = .ok (.goto 4, 3) := by decide +kernel
theorem d_TrustDeskModel_isThere_30 : decode kY_TrustDeskModel_isThere.2.1 30 = .ok (.iconst 1, 1) := by decide +kernel
theorem d_TrustDeskModel_isThere_31 : decode kY_TrustDeskModel_isThere.2.1 31 = .ok (.goto 4, 3) := by decide +kernel
def w_TrustDeskModel_isThere_x : List Nat := []
set_option maxHeartbeats 100000000 in theorem tc_TrustDeskModel_isThere_x {g : mj_G} {l : Launch} {d : Nat} {T0 : tm_H} {M0 : mj_M} {n0 x9 : Nat} {o0 : Nat} (h_o0 : T0 o0 = some (0, 13, 0)) (yR : rI M0 o0) (yT : rT M0 o0) (yn : nN M0 o0) {pb : Nat → Int} {pn : Nat} {pa : Int} {ps : p_S} (yO : pO M0 o0 pb pn pa ps) {pN9 : List (Nat × Nat)} (yw : rv M0 o0 19 = 0) (yM : pN M0 o0 pn pN9) (I0 : tm_I tm_FT (tm_in w_TrustDeskModel_isThere_x) x9 T0 M0 n0 T0 M0 n0) : mj_Met g l kY_TrustDeskModel_isThere d [.ref o0] M0 n0 0 0 (tm_Q tm_FT (tm_in w_TrustDeskModel_isThere_x) x9 T0 M0 n0 (fun r _ M => ∃ v : Int32, r = some (.int v) ∧ 0 ≤ v.toInt ∧ v.toInt ≤ 1 ∧ rI M o0 ∧ (v.toInt = p_hs pb pN9 (p_st pb pn ps.2.2) (p_sp pb pn ps.2.2)))) := by
  refine mj_enter (by decide) (Nat.le_of_ble_eq_true rfl) ?_
  have K1 : nN M0 o0 := yn
  have := yO.w
  obtain ⟨pst, hst⟩ : ∃ q, p_st pb pn ps.2.2 = q := ⟨_, rfl⟩
  obtain ⟨psp, hsp⟩ : ∃ q, p_sp pb pn ps.2.2 = q := ⟨_, rfl⟩
  obtain ⟨yt1, yt2, -, -⟩ := yO.t (by omega)
  rw [hst] at yt1
  rw [hsp] at yt2
  have := yT.1
  have : psp ≤ pn := by rw [← hsp]; exact p_tp_le (b := pb) (n := pn) (ps.2.2 + 1)
  have := yO.1.2.1
  refine mv_iconst (v := 0) d_TrustDeskModel_isThere_0 (by decide) ?_
  refine mv_istore_n (lv' := [(1, .int 0), (0, .ref o0)]) d_TrustDeskModel_isThere_1 rfl (by decide) rfl ?_
  refine mv_iconst (v := 0) d_TrustDeskModel_isThere_2 (by decide) ?_
  refine mv_istore_n (lv' := [(2, .int 0), (1, .int 0), (0, .ref o0)]) d_TrustDeskModel_isThere_3 rfl (by decide) rfl ?_
  have L4_2 : ∀ (k : Nat) (i2_2 : Int32) (i1_2 : Int32) (T_2 : tm_H) (M_2 : mj_M) (n_2 : Nat), tm_I tm_FT (tm_in w_TrustDeskModel_isThere_x) x9 T0 M0 n0 T_2 M_2 n_2 → T_2 o0 = some (0, 13, 0) → 0 ≤ i2_2.toInt → rv M_2 o0 15 = rv M0 o0 15 → rv M_2 o0 16 = rv M0 o0 16 → rv M_2 o0 24 = rv M0 o0 24 → 0 ≤ i1_2.toInt → i1_2.toInt ≤ 1 → 0 ≤ i2_2.toInt → i1_2.toInt = p_hs pb (List.take (i2_2.toInt).toNat pN9) pst psp → (rI M_2 o0) → (nN M_2 o0) → (pO M_2 o0 pb pn pa ps) → (pN M_2 o0 pn pN9) → 2147483647 - i2_2.toInt < (k : Int) → mj_V g l kY_TrustDeskModel_isThere d 4 [(2, .int i2_2), (1, .int i1_2), (0, .ref o0)] [] M_2 n_2 0 0 (tm_Q tm_FT (tm_in w_TrustDeskModel_isThere_x) x9 T0 M0 n0 (fun r _ M => ∃ v : Int32, r = some (.int v) ∧ 0 ≤ v.toInt ∧ v.toInt ≤ 1 ∧ rI M o0 ∧ (v.toInt = p_hs pb pN9 (p_st pb pn ps.2.2) (p_sp pb pn ps.2.2)))) := by
    intro k2
    induction k2 with
    | zero =>
      intro i2_2 i1_2 T_2 M_2 n_2 I_2 h_q0_2 iv0_2 iv1_2 iv2_2 iv3_2 iv4_2 iv5_2 iv6_2 iv7_2 kKR_2 kKN_2 kKZ9_2 kKNM_2 hk2
      have := mz_hi i2_2
      have := kKR_2.1 15 _ _ rfl
      have := kKR_2.1 16 _ _ rfl
      have := kKR_2.1 19 _ _ rfl
      omega
    | succ k2 ih2 =>
      intro i2_2 i1_2 T_2 M_2 n_2 I_2 h_q0_2 iv0_2 iv1_2 iv2_2 iv3_2 iv4_2 iv5_2 iv6_2 iv7_2 kKR_2 kKN_2 kKZ9_2 kKNM_2 hk2
      have := p_hs_r (b := pb) (List.take (i2_2.toInt).toNat pN9) pst psp
      refine mv_iload_n d_TrustDeskModel_isThere_4 rfl rfl ?_
      refine mv_aload_n d_TrustDeskModel_isThere_5 rfl rfl ?_
      obtain ⟨v4, q3⟩ := tm_atI I_2 h_q0_2 (k := 24) rfl
      refine tr_getK q3 d_TrustDeskModel_isThere_6 f_TrustDeskModel_321_13 ?_
      have := kKR_2.f (k := 24) q3 rfl
      have := tm_rv q3
      have := mz_hi i2_2
      have := mz_hi v4
      refine mv_icmp_geZ (tgt := 115) (a := i2_2.toInt) (b := v4.toInt) d_TrustDeskModel_isThere_9 (by decide) rfl rfl (fun b5 => ?_) (fun b5 => ?_)
      · refine mv_iload_n d_TrustDeskModel_isThere_115 rfl rfl ?_
        exact mv_iret d_TrustDeskModel_isThere_116 rfl (mz_nb (by omega) (by omega)) ⟨_, I_2, _, rfl, by omega, by omega, kKR_2, (by have e9 := iv7_2; rw [List.take_of_length_le (by have := kKNM_2.1; omega)] at e9; rw [hst, hsp]; omega)⟩
      · refine mv_aload_n d_TrustDeskModel_isThere_12 rfl rfl ?_
        obtain ⟨a7, q6, t_a7⟩ := tm_atR I_2 h_q0_2 (k := 26) rfl
        refine tr_getK q6 d_TrustDeskModel_isThere_13 f_TrustDeskModel_54_13 ?_
        refine mv_iload_n d_TrustDeskModel_isThere_16 rfl rfl ?_
        refine tr_ialdR (o := o0) (k := 26) I_2 q6 t_a7 (by decide) d_TrustDeskModel_isThere_17 (vp_in_iff.mpr (by have := kKR_2.1 15 _ _ rfl; have := kKR_2.1 16 _ _ rfl; have := kKR_2.1 19 _ _ rfl; omega)) (fun v8 e9 => ?_)
        have := kKR_2.a (k := 26) rfl (i2_2 : Int32).toNatClampNeg
        have := kKNM_2.1
        obtain ⟨q10, h11, -⟩ := kKNM_2.g (i := (i2_2.toInt).toNat) (by have := kKR_2.1 15 _ _ rfl; have := kKR_2.1 16 _ _ rfl; have := kKR_2.1 19 _ _ rfl; omega)
        have h12 : i2_2.toNatClampNeg = (i2_2.toInt).toNat := by have := mz_nat9 (i := i2_2) (by have := kKR_2.1 15 _ _ rfl; have := kKR_2.1 16 _ _ rfl; have := kKR_2.1 19 _ _ rfl; omega); have := kKR_2.1 15 _ _ rfl; have := kKR_2.1 16 _ _ rfl; have := kKR_2.1 19 _ _ rfl; omega
        have : v8.toInt = ra M_2 o0 26 (i2_2.toInt).toNat := by rw [e9, h12]
        have := kKNM_2.2 _ _ h11
        refine mv_aload_n d_TrustDeskModel_isThere_18 rfl rfl ?_
        obtain ⟨v14, q13⟩ := tm_atI I_2 h_q0_2 (k := 15) rfl
        refine tr_getK q13 d_TrustDeskModel_isThere_19 f_TrustDeskModel_192_13 ?_
        have := kKR_2.f (k := 15) q13 rfl
        have := tm_rv q13
        refine mv_aload_n d_TrustDeskModel_isThere_22 rfl rfl ?_
        obtain ⟨v16, q15⟩ := tm_atI I_2 h_q0_2 (k := 16) rfl
        refine tr_getK q15 d_TrustDeskModel_isThere_23 f_TrustDeskModel_195_13 ?_
        have := kKR_2.f (k := 16) q15 rfl
        have := tm_rv q15
        refine mv_isub d_TrustDeskModel_isThere_26 ?_
        have b17 : (v14 - v16 : Int32).toInt = (v14.toInt - v16.toInt) := mz_sub2 rfl rfl (by have := kKR_2.1 15 _ _ rfl; have := kKR_2.1 16 _ _ rfl; have := kKR_2.1 19 _ _ rfl; omega) (by have := kKR_2.1 15 _ _ rfl; have := kKR_2.1 16 _ _ rfl; have := kKR_2.1 19 _ _ rfl; omega)
        have := mz_hi v8
        have := mz_hi (v14 - v16)
        refine mv_icmp_neZ (tgt := 34) (a := v8.toInt) (b := (v14 - v16).toInt) d_TrustDeskModel_isThere_27 (by decide) rfl rfl (fun b18 => ?_) (fun b18 => ?_)
        · refine mv_iconst (v := 0) d_TrustDeskModel_isThere_34 (by decide) ?_
          refine mv_istore_n (lv' := [(3, .int 0), (2, .int i2_2), (1, .int i1_2), (0, .ref o0)]) d_TrustDeskModel_isThere_35 rfl (by decide) rfl ?_
          refine mv_iconst (v := 0) d_TrustDeskModel_isThere_36 (by decide) ?_
          refine mv_istore (lv' := [(4, .int 0), (3, .int 0), (2, .int i2_2), (1, .int i1_2), (0, .ref o0)]) d_TrustDeskModel_isThere_37 (by decide) rfl ?_
          have L39_19 : ∀ (k : Nat) (i4_19 : Int32) (i3_19 : Int32) (T_19 : tm_H) (M_19 : mj_M) (n_19 : Nat), tm_I tm_FT (tm_in w_TrustDeskModel_isThere_x) x9 T0 M0 n0 T_19 M_19 n_19 → T_19 o0 = some (0, 13, 0) → 0 ≤ i4_19.toInt → rv M_19 o0 15 = rv M0 o0 15 → rv M_19 o0 16 = rv M0 o0 16 → rv M_19 o0 24 = rv M0 o0 24 → 0 ≤ i2_2.toInt → i2_2.toInt < rv M_19 o0 24 → 0 ≤ i3_19.toInt → i3_19.toInt ≤ 1 → (i3_19.toInt ≠ 0 → ra M_19 o0 26 (i2_2).toNatClampNeg = rv M0 o0 15 - rv M0 o0 16) → 0 ≤ i4_19.toInt → i4_19.toInt ≤ (q10.2 : Int) - (q10.1 : Int) → i3_19.toInt = (if q10.2 - q10.1 = psp - pst ∧ p_sam pb (i4_19.toInt).toNat q10.1 pst = true then 1 else 0) → (rI M_19 o0) → (nN M_19 o0) → (pO M_19 o0 pb pn pa ps) → (pN M_19 o0 pn pN9) → 2147483647 - i4_19.toInt < (k : Int) → mj_V g l kY_TrustDeskModel_isThere d 39 [(4, .int i4_19), (3, .int i3_19), (2, .int i2_2), (1, .int i1_2), (0, .ref o0)] [] M_19 n_19 0 0 (tm_Q tm_FT (tm_in w_TrustDeskModel_isThere_x) x9 T0 M0 n0 (fun r _ M => ∃ v : Int32, r = some (.int v) ∧ 0 ≤ v.toInt ∧ v.toInt ≤ 1 ∧ rI M o0 ∧ (v.toInt = p_hs pb pN9 (p_st pb pn ps.2.2) (p_sp pb pn ps.2.2)))) := by
            intro k19
            induction k19 with
            | zero =>
              intro i4_19 i3_19 T_19 M_19 n_19 I_19 h_q0_19 iv0_19 iv1_19 iv2_19 iv3_19 iv4_19 iv5_19 iv6_19 iv7_19 iv8_19 iv9_19 iv10_19 iv11_19 kKR_19 kKN_19 kKZ9_19 kKNM_19 hk19
              have := mz_hi i4_19
              have := kKR_19.1 15 _ _ rfl
              have := kKR_19.1 16 _ _ rfl
              have := kKR_19.1 19 _ _ rfl
              omega
            | succ k19 ih19 =>
              intro i4_19 i3_19 T_19 M_19 n_19 I_19 h_q0_19 iv0_19 iv1_19 iv2_19 iv3_19 iv4_19 iv5_19 iv6_19 iv7_19 iv8_19 iv9_19 iv10_19 iv11_19 kKR_19 kKN_19 kKZ9_19 kKNM_19 hk19
              have := kKNM_19.2 _ _ h11
              refine mv_iload d_TrustDeskModel_isThere_39 rfl ?_
              refine mv_aload_n d_TrustDeskModel_isThere_41 rfl rfl ?_
              obtain ⟨a21, q20, t_a21⟩ := tm_atR I_19 h_q0_19 (k := 26) rfl
              refine tr_getK q20 d_TrustDeskModel_isThere_42 f_TrustDeskModel_54_13 ?_
              refine mv_iload_n d_TrustDeskModel_isThere_45 rfl rfl ?_
              refine tr_ialdR (o := o0) (k := 26) I_19 q20 t_a21 (by decide) d_TrustDeskModel_isThere_46 (vp_in_iff.mpr (by have := kKR_19.1 15 _ _ rfl; have := kKR_19.1 16 _ _ rfl; have := kKR_19.1 19 _ _ rfl; omega)) (fun v22 e23 => ?_)
              have := kKR_19.a (k := 26) rfl (i2_2 : Int32).toNatClampNeg
              have h24 : i2_2.toNatClampNeg = (i2_2.toInt).toNat := by have := mz_nat9 (i := i2_2) (by have := kKR_19.1 15 _ _ rfl; have := kKR_19.1 16 _ _ rfl; have := kKR_19.1 19 _ _ rfl; omega); have := kKR_19.1 15 _ _ rfl; have := kKR_19.1 16 _ _ rfl; have := kKR_19.1 19 _ _ rfl; omega
              have : v22.toInt = ra M_19 o0 26 (i2_2.toInt).toNat := by rw [e23, h24]
              have := kKNM_19.2 _ _ h11
              have := mz_hi i4_19
              have := mz_hi v22
              refine mv_icmp_geZ (tgt := 95) (a := i4_19.toInt) (b := v22.toInt) d_TrustDeskModel_isThere_47 (by decide) rfl rfl (fun b25 => ?_) (fun b25 => ?_)
              · refine mv_iload_n d_TrustDeskModel_isThere_95 rfl rfl ?_
                have := mz_hi i1_2
                refine mv_if_neZ (tgt := 103) (a := i1_2.toInt) d_TrustDeskModel_isThere_96 (by decide) rfl (fun b26 => ?_) (fun b26 => ?_)
                · refine mv_iconst (v := 1) d_TrustDeskModel_isThere_103 (by decide) ?_
                  refine mv_goto (tgt := 108) d_TrustDeskModel_isThere_104 (by decide) ?_
                  refine mv_istore_n (lv' := [(1, .int 1), (4, .int i4_19), (3, .int i3_19), (2, .int i2_2), (0, .ref o0)]) d_TrustDeskModel_isThere_108 rfl (by decide) rfl ?_
                  refine mv_iinc (v := (i2_2 + 1)) (lv' := [(2, .int (i2_2 + 1)), (1, .int 1), (4, .int i4_19), (3, .int i3_19), (0, .ref o0)]) d_TrustDeskModel_isThere_109 rfl rfl (by decide) rfl ?_
                  refine mv_goto (tgt := 4) d_TrustDeskModel_isThere_112 (by decide) ?_
                  have : (1 : Int32).toInt = 1 := by decide
                  have b27 : (i2_2 + 1 : Int32).toInt = (i2_2.toInt + 1) := mz_add2 rfl (by decide) (by have := kKR_19.1 15 _ _ rfl; have := kKR_19.1 16 _ _ rfl; have := kKR_19.1 19 _ _ rfl; omega) (by have := kKR_19.1 15 _ _ rfl; have := kKR_19.1 16 _ _ rfl; have := kKR_19.1 19 _ _ rfl; omega)
                  refine mv_locals (lv' := [(2, .int (i2_2 + 1)), (1, .int 1), (0, .ref o0)]) (by intro q hq; simp only [List.mem_cons, List.not_mem_nil, or_false] at hq; rcases hq with rfl | rfl | rfl <;> rfl) ?_
                  have b28 : (i2_2 + 1).toInt = i2_2.toInt + 1 := mz_addn 1 1 (by decide) (by have := mz_lo i2_2; omega) (by have := mz_hi i2_2; omega)
                  exact (ih2 (i2_2 + 1) 1 T_19 M_19 n_19 I_19 h_q0_19 (by have := kKR_19.1 15 _ _ rfl; have := kKR_19.1 16 _ _ rfl; have := kKR_19.1 19 _ _ rfl; first | omega | decide | exact fun h9 => absurd (by decide) h9) (by have := kKR_19.1 15 _ _ rfl; have := kKR_19.1 16 _ _ rfl; have := kKR_19.1 19 _ _ rfl; first | omega | decide | exact fun h9 => absurd (by decide) h9) (by have := kKR_19.1 15 _ _ rfl; have := kKR_19.1 16 _ _ rfl; have := kKR_19.1 19 _ _ rfl; first | omega | decide | exact fun h9 => absurd (by decide) h9) (by have := kKR_19.1 15 _ _ rfl; have := kKR_19.1 16 _ _ rfl; have := kKR_19.1 19 _ _ rfl; first | omega | decide | exact fun h9 => absurd (by decide) h9) (by have := kKR_19.1 15 _ _ rfl; have := kKR_19.1 16 _ _ rfl; have := kKR_19.1 19 _ _ rfl; first | omega | decide | exact fun h9 => absurd (by decide) h9) (by have := kKR_19.1 15 _ _ rfl; have := kKR_19.1 16 _ _ rfl; have := kKR_19.1 19 _ _ rfl; first | omega | decide | exact fun h9 => absurd (by decide) h9) (by have := kKR_19.1 15 _ _ rfl; have := kKR_19.1 16 _ _ rfl; have := kKR_19.1 19 _ _ rfl; first | omega | decide | exact fun h9 => absurd (by decide) h9) (by have e8 : ((i2_2 + 1).toInt).toNat = (i2_2.toInt).toNat + 1 := (by omega); have e7 := p_sm_of (b := pb) (k := (i4_19.toInt).toNat) iv11_19 (by omega) (by intro h9; omega); have e6 := p_sm_r (b := pb) (q := q10) (s := pst) (e := psp); rw [e8, p_hs_out pN9 _ q10 pst psp h11]; split <;> omega) kKR_19 kKN_19 kKZ9_19 kKNM_19 (by have := kKR_19.1 15 _ _ rfl; have := kKR_19.1 16 _ _ rfl; have := kKR_19.1 19 _ _ rfl; omega))
                · refine mv_iload_n d_TrustDeskModel_isThere_99 rfl rfl ?_
                  have := mz_hi i3_19
                  refine mv_if_eqZ (tgt := 107) (a := i3_19.toInt) d_TrustDeskModel_isThere_100 (by decide) rfl (fun b29 => ?_) (fun b29 => ?_)
                  · refine mv_iconst (v := 0) d_TrustDeskModel_isThere_107 (by decide) ?_
                    refine mv_istore_n (lv' := [(1, .int 0), (4, .int i4_19), (3, .int i3_19), (2, .int i2_2), (0, .ref o0)]) d_TrustDeskModel_isThere_108 rfl (by decide) rfl ?_
                    refine mv_iinc (v := (i2_2 + 1)) (lv' := [(2, .int (i2_2 + 1)), (1, .int 0), (4, .int i4_19), (3, .int i3_19), (0, .ref o0)]) d_TrustDeskModel_isThere_109 rfl rfl (by decide) rfl ?_
                    refine mv_goto (tgt := 4) d_TrustDeskModel_isThere_112 (by decide) ?_
                    have : (0 : Int32).toInt = 0 := by decide
                    have b30 : (i2_2 + 1 : Int32).toInt = (i2_2.toInt + 1) := mz_add2 rfl (by decide) (by have := kKR_19.1 15 _ _ rfl; have := kKR_19.1 16 _ _ rfl; have := kKR_19.1 19 _ _ rfl; omega) (by have := kKR_19.1 15 _ _ rfl; have := kKR_19.1 16 _ _ rfl; have := kKR_19.1 19 _ _ rfl; omega)
                    refine mv_locals (lv' := [(2, .int (i2_2 + 1)), (1, .int 0), (0, .ref o0)]) (by intro q hq; simp only [List.mem_cons, List.not_mem_nil, or_false] at hq; rcases hq with rfl | rfl | rfl <;> rfl) ?_
                    have b31 : (i2_2 + 1).toInt = i2_2.toInt + 1 := mz_addn 1 1 (by decide) (by have := mz_lo i2_2; omega) (by have := mz_hi i2_2; omega)
                    exact (ih2 (i2_2 + 1) 0 T_19 M_19 n_19 I_19 h_q0_19 (by have := kKR_19.1 15 _ _ rfl; have := kKR_19.1 16 _ _ rfl; have := kKR_19.1 19 _ _ rfl; first | omega | decide | exact fun h9 => absurd (by decide) h9) (by have := kKR_19.1 15 _ _ rfl; have := kKR_19.1 16 _ _ rfl; have := kKR_19.1 19 _ _ rfl; first | omega | decide | exact fun h9 => absurd (by decide) h9) (by have := kKR_19.1 15 _ _ rfl; have := kKR_19.1 16 _ _ rfl; have := kKR_19.1 19 _ _ rfl; first | omega | decide | exact fun h9 => absurd (by decide) h9) (by have := kKR_19.1 15 _ _ rfl; have := kKR_19.1 16 _ _ rfl; have := kKR_19.1 19 _ _ rfl; first | omega | decide | exact fun h9 => absurd (by decide) h9) (by have := kKR_19.1 15 _ _ rfl; have := kKR_19.1 16 _ _ rfl; have := kKR_19.1 19 _ _ rfl; first | omega | decide | exact fun h9 => absurd (by decide) h9) (by have := kKR_19.1 15 _ _ rfl; have := kKR_19.1 16 _ _ rfl; have := kKR_19.1 19 _ _ rfl; first | omega | decide | exact fun h9 => absurd (by decide) h9) (by have := kKR_19.1 15 _ _ rfl; have := kKR_19.1 16 _ _ rfl; have := kKR_19.1 19 _ _ rfl; first | omega | decide | exact fun h9 => absurd (by decide) h9) (by have e8 : ((i2_2 + 1).toInt).toNat = (i2_2.toInt).toNat + 1 := (by omega); have e7 := p_sm_of (b := pb) (k := (i4_19.toInt).toNat) iv11_19 (by omega) (by intro h9; omega); have e6 := p_sm_r (b := pb) (q := q10) (s := pst) (e := psp); rw [e8, p_hs_out pN9 _ q10 pst psp h11]; split <;> omega) kKR_19 kKN_19 kKZ9_19 kKNM_19 (by have := kKR_19.1 15 _ _ rfl; have := kKR_19.1 16 _ _ rfl; have := kKR_19.1 19 _ _ rfl; omega))
                  · refine mv_iconst (v := 1) d_TrustDeskModel_isThere_103 (by decide) ?_
                    refine mv_goto (tgt := 108) d_TrustDeskModel_isThere_104 (by decide) ?_
                    refine mv_istore_n (lv' := [(1, .int 1), (4, .int i4_19), (3, .int i3_19), (2, .int i2_2), (0, .ref o0)]) d_TrustDeskModel_isThere_108 rfl (by decide) rfl ?_
                    refine mv_iinc (v := (i2_2 + 1)) (lv' := [(2, .int (i2_2 + 1)), (1, .int 1), (4, .int i4_19), (3, .int i3_19), (0, .ref o0)]) d_TrustDeskModel_isThere_109 rfl rfl (by decide) rfl ?_
                    refine mv_goto (tgt := 4) d_TrustDeskModel_isThere_112 (by decide) ?_
                    have : (1 : Int32).toInt = 1 := by decide
                    have b32 : (i2_2 + 1 : Int32).toInt = (i2_2.toInt + 1) := mz_add2 rfl (by decide) (by have := kKR_19.1 15 _ _ rfl; have := kKR_19.1 16 _ _ rfl; have := kKR_19.1 19 _ _ rfl; omega) (by have := kKR_19.1 15 _ _ rfl; have := kKR_19.1 16 _ _ rfl; have := kKR_19.1 19 _ _ rfl; omega)
                    refine mv_locals (lv' := [(2, .int (i2_2 + 1)), (1, .int 1), (0, .ref o0)]) (by intro q hq; simp only [List.mem_cons, List.not_mem_nil, or_false] at hq; rcases hq with rfl | rfl | rfl <;> rfl) ?_
                    have b33 : (i2_2 + 1).toInt = i2_2.toInt + 1 := mz_addn 1 1 (by decide) (by have := mz_lo i2_2; omega) (by have := mz_hi i2_2; omega)
                    exact (ih2 (i2_2 + 1) 1 T_19 M_19 n_19 I_19 h_q0_19 (by have := kKR_19.1 15 _ _ rfl; have := kKR_19.1 16 _ _ rfl; have := kKR_19.1 19 _ _ rfl; first | omega | decide | exact fun h9 => absurd (by decide) h9) (by have := kKR_19.1 15 _ _ rfl; have := kKR_19.1 16 _ _ rfl; have := kKR_19.1 19 _ _ rfl; first | omega | decide | exact fun h9 => absurd (by decide) h9) (by have := kKR_19.1 15 _ _ rfl; have := kKR_19.1 16 _ _ rfl; have := kKR_19.1 19 _ _ rfl; first | omega | decide | exact fun h9 => absurd (by decide) h9) (by have := kKR_19.1 15 _ _ rfl; have := kKR_19.1 16 _ _ rfl; have := kKR_19.1 19 _ _ rfl; first | omega | decide | exact fun h9 => absurd (by decide) h9) (by have := kKR_19.1 15 _ _ rfl; have := kKR_19.1 16 _ _ rfl; have := kKR_19.1 19 _ _ rfl; first | omega | decide | exact fun h9 => absurd (by decide) h9) (by have := kKR_19.1 15 _ _ rfl; have := kKR_19.1 16 _ _ rfl; have := kKR_19.1 19 _ _ rfl; first | omega | decide | exact fun h9 => absurd (by decide) h9) (by have := kKR_19.1 15 _ _ rfl; have := kKR_19.1 16 _ _ rfl; have := kKR_19.1 19 _ _ rfl; first | omega | decide | exact fun h9 => absurd (by decide) h9) (by have e8 : ((i2_2 + 1).toInt).toNat = (i2_2.toInt).toNat + 1 := (by omega); have e7 := p_sm_of (b := pb) (k := (i4_19.toInt).toNat) iv11_19 (by omega) (by intro h9; omega); have e6 := p_sm_r (b := pb) (q := q10) (s := pst) (e := psp); rw [e8, p_hs_out pN9 _ q10 pst psp h11]; split <;> omega) kKR_19 kKN_19 kKZ9_19 kKNM_19 (by have := kKR_19.1 15 _ _ rfl; have := kKR_19.1 16 _ _ rfl; have := kKR_19.1 19 _ _ rfl; omega))
              · refine mv_iload_n d_TrustDeskModel_isThere_50 rfl rfl ?_
                have := mz_hi i3_19
                refine mv_if_eqZ (tgt := 95) (a := i3_19.toInt) d_TrustDeskModel_isThere_51 (by decide) rfl (fun b34 => ?_) (fun b34 => ?_)
                · refine mv_iload_n d_TrustDeskModel_isThere_95 rfl rfl ?_
                  have := mz_hi i1_2
                  refine mv_if_neZ (tgt := 103) (a := i1_2.toInt) d_TrustDeskModel_isThere_96 (by decide) rfl (fun b35 => ?_) (fun b35 => ?_)
                  · refine mv_iconst (v := 1) d_TrustDeskModel_isThere_103 (by decide) ?_
                    refine mv_goto (tgt := 108) d_TrustDeskModel_isThere_104 (by decide) ?_
                    refine mv_istore_n (lv' := [(1, .int 1), (4, .int i4_19), (3, .int i3_19), (2, .int i2_2), (0, .ref o0)]) d_TrustDeskModel_isThere_108 rfl (by decide) rfl ?_
                    refine mv_iinc (v := (i2_2 + 1)) (lv' := [(2, .int (i2_2 + 1)), (1, .int 1), (4, .int i4_19), (3, .int i3_19), (0, .ref o0)]) d_TrustDeskModel_isThere_109 rfl rfl (by decide) rfl ?_
                    refine mv_goto (tgt := 4) d_TrustDeskModel_isThere_112 (by decide) ?_
                    have : (1 : Int32).toInt = 1 := by decide
                    have b36 : (i2_2 + 1 : Int32).toInt = (i2_2.toInt + 1) := mz_add2 rfl (by decide) (by have := kKR_19.1 15 _ _ rfl; have := kKR_19.1 16 _ _ rfl; have := kKR_19.1 19 _ _ rfl; omega) (by have := kKR_19.1 15 _ _ rfl; have := kKR_19.1 16 _ _ rfl; have := kKR_19.1 19 _ _ rfl; omega)
                    refine mv_locals (lv' := [(2, .int (i2_2 + 1)), (1, .int 1), (0, .ref o0)]) (by intro q hq; simp only [List.mem_cons, List.not_mem_nil, or_false] at hq; rcases hq with rfl | rfl | rfl <;> rfl) ?_
                    have b37 : (i2_2 + 1).toInt = i2_2.toInt + 1 := mz_addn 1 1 (by decide) (by have := mz_lo i2_2; omega) (by have := mz_hi i2_2; omega)
                    exact (ih2 (i2_2 + 1) 1 T_19 M_19 n_19 I_19 h_q0_19 (by have := kKR_19.1 15 _ _ rfl; have := kKR_19.1 16 _ _ rfl; have := kKR_19.1 19 _ _ rfl; first | omega | decide | exact fun h9 => absurd (by decide) h9) (by have := kKR_19.1 15 _ _ rfl; have := kKR_19.1 16 _ _ rfl; have := kKR_19.1 19 _ _ rfl; first | omega | decide | exact fun h9 => absurd (by decide) h9) (by have := kKR_19.1 15 _ _ rfl; have := kKR_19.1 16 _ _ rfl; have := kKR_19.1 19 _ _ rfl; first | omega | decide | exact fun h9 => absurd (by decide) h9) (by have := kKR_19.1 15 _ _ rfl; have := kKR_19.1 16 _ _ rfl; have := kKR_19.1 19 _ _ rfl; first | omega | decide | exact fun h9 => absurd (by decide) h9) (by have := kKR_19.1 15 _ _ rfl; have := kKR_19.1 16 _ _ rfl; have := kKR_19.1 19 _ _ rfl; first | omega | decide | exact fun h9 => absurd (by decide) h9) (by have := kKR_19.1 15 _ _ rfl; have := kKR_19.1 16 _ _ rfl; have := kKR_19.1 19 _ _ rfl; first | omega | decide | exact fun h9 => absurd (by decide) h9) (by have := kKR_19.1 15 _ _ rfl; have := kKR_19.1 16 _ _ rfl; have := kKR_19.1 19 _ _ rfl; first | omega | decide | exact fun h9 => absurd (by decide) h9) (by have e8 : ((i2_2 + 1).toInt).toNat = (i2_2.toInt).toNat + 1 := (by omega); have e7 := p_sm_of (b := pb) (k := (i4_19.toInt).toNat) iv11_19 (by omega) (by intro h9; omega); have e6 := p_sm_r (b := pb) (q := q10) (s := pst) (e := psp); rw [e8, p_hs_out pN9 _ q10 pst psp h11]; split <;> omega) kKR_19 kKN_19 kKZ9_19 kKNM_19 (by have := kKR_19.1 15 _ _ rfl; have := kKR_19.1 16 _ _ rfl; have := kKR_19.1 19 _ _ rfl; omega))
                  · refine mv_iload_n d_TrustDeskModel_isThere_99 rfl rfl ?_
                    have := mz_hi i3_19
                    refine mv_if_eqZ (tgt := 107) (a := i3_19.toInt) d_TrustDeskModel_isThere_100 (by decide) rfl (fun b38 => ?_) (fun b38 => absurd b38 (by omega))
                    refine mv_iconst (v := 0) d_TrustDeskModel_isThere_107 (by decide) ?_
                    refine mv_istore_n (lv' := [(1, .int 0), (4, .int i4_19), (3, .int i3_19), (2, .int i2_2), (0, .ref o0)]) d_TrustDeskModel_isThere_108 rfl (by decide) rfl ?_
                    refine mv_iinc (v := (i2_2 + 1)) (lv' := [(2, .int (i2_2 + 1)), (1, .int 0), (4, .int i4_19), (3, .int i3_19), (0, .ref o0)]) d_TrustDeskModel_isThere_109 rfl rfl (by decide) rfl ?_
                    refine mv_goto (tgt := 4) d_TrustDeskModel_isThere_112 (by decide) ?_
                    have : (0 : Int32).toInt = 0 := by decide
                    have b39 : (i2_2 + 1 : Int32).toInt = (i2_2.toInt + 1) := mz_add2 rfl (by decide) (by have := kKR_19.1 15 _ _ rfl; have := kKR_19.1 16 _ _ rfl; have := kKR_19.1 19 _ _ rfl; omega) (by have := kKR_19.1 15 _ _ rfl; have := kKR_19.1 16 _ _ rfl; have := kKR_19.1 19 _ _ rfl; omega)
                    refine mv_locals (lv' := [(2, .int (i2_2 + 1)), (1, .int 0), (0, .ref o0)]) (by intro q hq; simp only [List.mem_cons, List.not_mem_nil, or_false] at hq; rcases hq with rfl | rfl | rfl <;> rfl) ?_
                    have b40 : (i2_2 + 1).toInt = i2_2.toInt + 1 := mz_addn 1 1 (by decide) (by have := mz_lo i2_2; omega) (by have := mz_hi i2_2; omega)
                    exact (ih2 (i2_2 + 1) 0 T_19 M_19 n_19 I_19 h_q0_19 (by have := kKR_19.1 15 _ _ rfl; have := kKR_19.1 16 _ _ rfl; have := kKR_19.1 19 _ _ rfl; first | omega | decide | exact fun h9 => absurd (by decide) h9) (by have := kKR_19.1 15 _ _ rfl; have := kKR_19.1 16 _ _ rfl; have := kKR_19.1 19 _ _ rfl; first | omega | decide | exact fun h9 => absurd (by decide) h9) (by have := kKR_19.1 15 _ _ rfl; have := kKR_19.1 16 _ _ rfl; have := kKR_19.1 19 _ _ rfl; first | omega | decide | exact fun h9 => absurd (by decide) h9) (by have := kKR_19.1 15 _ _ rfl; have := kKR_19.1 16 _ _ rfl; have := kKR_19.1 19 _ _ rfl; first | omega | decide | exact fun h9 => absurd (by decide) h9) (by have := kKR_19.1 15 _ _ rfl; have := kKR_19.1 16 _ _ rfl; have := kKR_19.1 19 _ _ rfl; first | omega | decide | exact fun h9 => absurd (by decide) h9) (by have := kKR_19.1 15 _ _ rfl; have := kKR_19.1 16 _ _ rfl; have := kKR_19.1 19 _ _ rfl; first | omega | decide | exact fun h9 => absurd (by decide) h9) (by have := kKR_19.1 15 _ _ rfl; have := kKR_19.1 16 _ _ rfl; have := kKR_19.1 19 _ _ rfl; first | omega | decide | exact fun h9 => absurd (by decide) h9) (by have e8 : ((i2_2 + 1).toInt).toNat = (i2_2.toInt).toNat + 1 := (by omega); have e7 := p_sm_of (b := pb) (k := (i4_19.toInt).toNat) iv11_19 (by omega) (by intro h9; omega); have e6 := p_sm_r (b := pb) (q := q10) (s := pst) (e := psp); rw [e8, p_hs_out pN9 _ q10 pst psp h11]; split <;> omega) kKR_19 kKN_19 kKZ9_19 kKNM_19 (by have := kKR_19.1 15 _ _ rfl; have := kKR_19.1 16 _ _ rfl; have := kKR_19.1 19 _ _ rfl; omega))
                · refine mv_aload_n d_TrustDeskModel_isThere_54 rfl rfl ?_
                  obtain ⟨a42, q41, t_a42⟩ := tm_atR I_19 h_q0_19 (k := 13) rfl
                  refine tr_getK q41 d_TrustDeskModel_isThere_55 f_TrustDeskModel_44_13 ?_
                  refine mv_aload_n d_TrustDeskModel_isThere_58 rfl rfl ?_
                  obtain ⟨v44, q43⟩ := tm_atI I_19 h_q0_19 (k := 16) rfl
                  refine tr_getK q43 d_TrustDeskModel_isThere_59 f_TrustDeskModel_195_13 ?_
                  have := kKR_19.f (k := 16) q43 rfl
                  have := tm_rv q43
                  refine mv_iload d_TrustDeskModel_isThere_62 rfl ?_
                  refine mv_iadd d_TrustDeskModel_isThere_64 ?_
                  have b45 : (v44 + i4_19 : Int32).toInt = (v44.toInt + i4_19.toInt) := mz_add2 rfl rfl (by have := kKR_19.1 15 _ _ rfl; have := kKR_19.1 16 _ _ rfl; have := kKR_19.1 19 _ _ rfl; omega) (by have := kKR_19.1 15 _ _ rfl; have := kKR_19.1 16 _ _ rfl; have := kKR_19.1 19 _ _ rfl; omega)
                  refine tr_baldR (o := o0) (k := 13) I_19 q41 t_a42 (by decide) d_TrustDeskModel_isThere_65 (vp_in_iff.mpr (by have := kKR_19.1 15 _ _ rfl; have := kKR_19.1 16 _ _ rfl; have := kKR_19.1 19 _ _ rfl; omega)) (fun v46 e47 => ?_)
                  have := kKR_19.a (k := 13) rfl ((v44 + i4_19) : Int32).toNatClampNeg
                  have h48 : (v44 + i4_19).toNatClampNeg = pst + (i4_19.toInt).toNat := by have := mz_nat9 (i := (v44 + i4_19)) (by have := kKR_19.1 15 _ _ rfl; have := kKR_19.1 16 _ _ rfl; have := kKR_19.1 19 _ _ rfl; omega); have := kKR_19.1 15 _ _ rfl; have := kKR_19.1 16 _ _ rfl; have := kKR_19.1 19 _ _ rfl; omega
                  have := kKZ9_19.1.byte (p := pst + (i4_19.toInt).toNat) (v := v46.toInt) (by have := kKZ9_19.1.1; have := kKR_19.1 15 _ _ rfl; have := kKR_19.1 16 _ _ rfl; have := kKR_19.1 19 _ _ rfl; omega) (by rw [e47, h48])
                  refine mv_aload_n d_TrustDeskModel_isThere_66 rfl rfl ?_
                  refine tr_getK (k := 13) q41 d_TrustDeskModel_isThere_67 f_TrustDeskModel_44_13 ?_
                  refine mv_aload_n d_TrustDeskModel_isThere_70 rfl rfl ?_
                  obtain ⟨a50, q49, t_a50⟩ := tm_atR I_19 h_q0_19 (k := 25) rfl
                  refine tr_getK q49 d_TrustDeskModel_isThere_71 f_TrustDeskModel_51_13 ?_
                  refine mv_iload_n d_TrustDeskModel_isThere_74 rfl rfl ?_
                  refine tr_ialdR (o := o0) (k := 25) I_19 q49 t_a50 (by decide) d_TrustDeskModel_isThere_75 (vp_in_iff.mpr (by have := kKR_19.1 15 _ _ rfl; have := kKR_19.1 16 _ _ rfl; have := kKR_19.1 19 _ _ rfl; omega)) (fun v51 e52 => ?_)
                  have := kKR_19.a (k := 25) rfl (i2_2 : Int32).toNatClampNeg
                  have h53 : i2_2.toNatClampNeg = (i2_2.toInt).toNat := by have := mz_nat9 (i := i2_2) (by have := kKR_19.1 15 _ _ rfl; have := kKR_19.1 16 _ _ rfl; have := kKR_19.1 19 _ _ rfl; omega); have := kKR_19.1 15 _ _ rfl; have := kKR_19.1 16 _ _ rfl; have := kKR_19.1 19 _ _ rfl; omega
                  have : v51.toInt = ra M_19 o0 25 (i2_2.toInt).toNat := by rw [e52, h53]
                  have := kKNM_19.2 _ _ h11
                  refine mv_iload d_TrustDeskModel_isThere_76 rfl ?_
                  refine mv_iadd d_TrustDeskModel_isThere_78 ?_
                  have b54 : (v51 + i4_19 : Int32).toInt = (v51.toInt + i4_19.toInt) := mz_add2 rfl rfl (by have := kKR_19.1 15 _ _ rfl; have := kKR_19.1 16 _ _ rfl; have := kKR_19.1 19 _ _ rfl; omega) (by have := kKR_19.1 15 _ _ rfl; have := kKR_19.1 16 _ _ rfl; have := kKR_19.1 19 _ _ rfl; omega)
                  refine tr_baldR (o := o0) (k := 13) I_19 q41 t_a42 (by decide) d_TrustDeskModel_isThere_79 (vp_in_iff.mpr (by have := kKR_19.1 15 _ _ rfl; have := kKR_19.1 16 _ _ rfl; have := kKR_19.1 19 _ _ rfl; omega)) (fun v55 e56 => ?_)
                  have := kKR_19.a (k := 13) rfl ((v51 + i4_19) : Int32).toNatClampNeg
                  have h57 : (v51 + i4_19).toNatClampNeg = q10.1 + (i4_19.toInt).toNat := by have := mz_nat9 (i := (v51 + i4_19)) (by have := kKR_19.1 15 _ _ rfl; have := kKR_19.1 16 _ _ rfl; have := kKR_19.1 19 _ _ rfl; omega); have := kKR_19.1 15 _ _ rfl; have := kKR_19.1 16 _ _ rfl; have := kKR_19.1 19 _ _ rfl; omega
                  have := kKZ9_19.1.byte (p := q10.1 + (i4_19.toInt).toNat) (v := v55.toInt) (by have := kKZ9_19.1.1; have := kKR_19.1 15 _ _ rfl; have := kKR_19.1 16 _ _ rfl; have := kKR_19.1 19 _ _ rfl; omega) (by rw [e56, h57])
                  have := mz_hi v46
                  have := mz_hi v55
                  refine mv_icmp_neZ (tgt := 87) (a := v46.toInt) (b := v55.toInt) d_TrustDeskModel_isThere_80 (by decide) rfl rfl (fun b58 => ?_) (fun b58 => ?_)
                  · refine mv_iconst (v := 0) d_TrustDeskModel_isThere_87 (by decide) ?_
                    refine mv_istore_n (lv' := [(3, .int 0), (4, .int i4_19), (2, .int i2_2), (1, .int i1_2), (0, .ref o0)]) d_TrustDeskModel_isThere_88 rfl (by decide) rfl ?_
                    refine mv_iinc (v := (i4_19 + 1)) (lv' := [(4, .int (i4_19 + 1)), (3, .int 0), (2, .int i2_2), (1, .int i1_2), (0, .ref o0)]) d_TrustDeskModel_isThere_89 rfl rfl (by decide) rfl ?_
                    refine mv_goto (tgt := 39) d_TrustDeskModel_isThere_92 (by decide) ?_
                    have : (0 : Int32).toInt = 0 := by decide
                    have b59 : (i4_19 + 1 : Int32).toInt = (i4_19.toInt + 1) := mz_add2 rfl (by decide) (by have := kKR_19.1 15 _ _ rfl; have := kKR_19.1 16 _ _ rfl; have := kKR_19.1 19 _ _ rfl; omega) (by have := kKR_19.1 15 _ _ rfl; have := kKR_19.1 16 _ _ rfl; have := kKR_19.1 19 _ _ rfl; omega)
                    have b60 : (i4_19 + 1).toInt = i4_19.toInt + 1 := mz_addn 1 1 (by decide) (by have := mz_lo i4_19; omega) (by have := mz_hi i4_19; omega)
                    exact (ih19 (i4_19 + 1) 0 T_19 M_19 n_19 I_19 h_q0_19 (by have := kKR_19.1 15 _ _ rfl; have := kKR_19.1 16 _ _ rfl; have := kKR_19.1 19 _ _ rfl; first | omega | decide | exact fun h9 => absurd (by decide) h9) (by have := kKR_19.1 15 _ _ rfl; have := kKR_19.1 16 _ _ rfl; have := kKR_19.1 19 _ _ rfl; first | omega | decide | exact fun h9 => absurd (by decide) h9) (by have := kKR_19.1 15 _ _ rfl; have := kKR_19.1 16 _ _ rfl; have := kKR_19.1 19 _ _ rfl; first | omega | decide | exact fun h9 => absurd (by decide) h9) (by have := kKR_19.1 15 _ _ rfl; have := kKR_19.1 16 _ _ rfl; have := kKR_19.1 19 _ _ rfl; first | omega | decide | exact fun h9 => absurd (by decide) h9) (by have := kKR_19.1 15 _ _ rfl; have := kKR_19.1 16 _ _ rfl; have := kKR_19.1 19 _ _ rfl; first | omega | decide | exact fun h9 => absurd (by decide) h9) (by have := kKR_19.1 15 _ _ rfl; have := kKR_19.1 16 _ _ rfl; have := kKR_19.1 19 _ _ rfl; first | omega | decide | exact fun h9 => absurd (by decide) h9) (by have := kKR_19.1 15 _ _ rfl; have := kKR_19.1 16 _ _ rfl; have := kKR_19.1 19 _ _ rfl; first | omega | decide | exact fun h9 => absurd (by decide) h9) (by have := kKR_19.1 15 _ _ rfl; have := kKR_19.1 16 _ _ rfl; have := kKR_19.1 19 _ _ rfl; first | omega | decide | exact fun h9 => absurd (by decide) h9) (by have := kKR_19.1 15 _ _ rfl; have := kKR_19.1 16 _ _ rfl; have := kKR_19.1 19 _ _ rfl; first | omega | decide | exact fun h9 => absurd (by decide) h9) (by have := kKR_19.1 15 _ _ rfl; have := kKR_19.1 16 _ _ rfl; have := kKR_19.1 19 _ _ rfl; first | omega | decide | exact fun h9 => absurd (by decide) h9) (by have := kKR_19.1 15 _ _ rfl; have := kKR_19.1 16 _ _ rfl; have := kKR_19.1 19 _ _ rfl; first | omega | decide | exact fun h9 => absurd (by decide) h9) (by have c9 : q10.2 - q10.1 = psp - pst ∧ p_sam pb (i4_19.toInt).toNat q10.1 pst = true := Classical.byContradiction (fun h9 => by have e9 := iv11_19; rw [if_neg h9] at e9; omega); have e8 : ((i4_19 + 1).toInt).toNat = (i4_19.toInt).toNat + 1 := (by omega); have e7 : ¬ p_sam pb ((i4_19 + 1).toInt).toNat q10.1 pst = true := (fun h9 => by rw [e8, p_sam_out, c9.2, Bool.true_and] at h9; exact absurd (of_decide_eq_true h9) (by omega)); exact (show (0 : Int32).toInt = 0 from by decide).trans (if_neg (fun h9 => e7 h9.2)).symm) kKR_19 kKN_19 kKZ9_19 kKNM_19 (by have := kKR_19.1 15 _ _ rfl; have := kKR_19.1 16 _ _ rfl; have := kKR_19.1 19 _ _ rfl; omega))
                  · refine mv_iconst (v := 1) d_TrustDeskModel_isThere_83 (by decide) ?_
                    refine mv_goto (tgt := 88) d_TrustDeskModel_isThere_84 (by decide) ?_
                    refine mv_istore_n (lv' := [(3, .int 1), (4, .int i4_19), (2, .int i2_2), (1, .int i1_2), (0, .ref o0)]) d_TrustDeskModel_isThere_88 rfl (by decide) rfl ?_
                    refine mv_iinc (v := (i4_19 + 1)) (lv' := [(4, .int (i4_19 + 1)), (3, .int 1), (2, .int i2_2), (1, .int i1_2), (0, .ref o0)]) d_TrustDeskModel_isThere_89 rfl rfl (by decide) rfl ?_
                    refine mv_goto (tgt := 39) d_TrustDeskModel_isThere_92 (by decide) ?_
                    have : (1 : Int32).toInt = 1 := by decide
                    have b61 : (i4_19 + 1 : Int32).toInt = (i4_19.toInt + 1) := mz_add2 rfl (by decide) (by have := kKR_19.1 15 _ _ rfl; have := kKR_19.1 16 _ _ rfl; have := kKR_19.1 19 _ _ rfl; omega) (by have := kKR_19.1 15 _ _ rfl; have := kKR_19.1 16 _ _ rfl; have := kKR_19.1 19 _ _ rfl; omega)
                    have b62 : (i4_19 + 1).toInt = i4_19.toInt + 1 := mz_addn 1 1 (by decide) (by have := mz_lo i4_19; omega) (by have := mz_hi i4_19; omega)
                    exact (ih19 (i4_19 + 1) 1 T_19 M_19 n_19 I_19 h_q0_19 (by have := kKR_19.1 15 _ _ rfl; have := kKR_19.1 16 _ _ rfl; have := kKR_19.1 19 _ _ rfl; first | omega | decide | exact fun h9 => absurd (by decide) h9) (by have := kKR_19.1 15 _ _ rfl; have := kKR_19.1 16 _ _ rfl; have := kKR_19.1 19 _ _ rfl; first | omega | decide | exact fun h9 => absurd (by decide) h9) (by have := kKR_19.1 15 _ _ rfl; have := kKR_19.1 16 _ _ rfl; have := kKR_19.1 19 _ _ rfl; first | omega | decide | exact fun h9 => absurd (by decide) h9) (by have := kKR_19.1 15 _ _ rfl; have := kKR_19.1 16 _ _ rfl; have := kKR_19.1 19 _ _ rfl; first | omega | decide | exact fun h9 => absurd (by decide) h9) (by have := kKR_19.1 15 _ _ rfl; have := kKR_19.1 16 _ _ rfl; have := kKR_19.1 19 _ _ rfl; first | omega | decide | exact fun h9 => absurd (by decide) h9) (by have := kKR_19.1 15 _ _ rfl; have := kKR_19.1 16 _ _ rfl; have := kKR_19.1 19 _ _ rfl; first | omega | decide | exact fun h9 => absurd (by decide) h9) (by have := kKR_19.1 15 _ _ rfl; have := kKR_19.1 16 _ _ rfl; have := kKR_19.1 19 _ _ rfl; first | omega | decide | exact fun h9 => absurd (by decide) h9) (by have := kKR_19.1 15 _ _ rfl; have := kKR_19.1 16 _ _ rfl; have := kKR_19.1 19 _ _ rfl; first | omega | decide | exact fun h9 => absurd (by decide) h9) (by have := kKR_19.1 15 _ _ rfl; have := kKR_19.1 16 _ _ rfl; have := kKR_19.1 19 _ _ rfl; first | omega | decide | exact fun h9 => absurd (by decide) h9) (by have := kKR_19.1 15 _ _ rfl; have := kKR_19.1 16 _ _ rfl; have := kKR_19.1 19 _ _ rfl; first | omega | decide | exact fun h9 => absurd (by decide) h9) (by have := kKR_19.1 15 _ _ rfl; have := kKR_19.1 16 _ _ rfl; have := kKR_19.1 19 _ _ rfl; first | omega | decide | exact fun h9 => absurd (by decide) h9) (by have c9 : q10.2 - q10.1 = psp - pst ∧ p_sam pb (i4_19.toInt).toNat q10.1 pst = true := Classical.byContradiction (fun h9 => by have e9 := iv11_19; rw [if_neg h9] at e9; omega); have e8 : ((i4_19 + 1).toInt).toNat = (i4_19.toInt).toNat + 1 := (by omega); have e7 : p_sam pb ((i4_19 + 1).toInt).toNat q10.1 pst = true := (by rw [e8, p_sam_out, c9.2, Bool.true_and]; exact decide_eq_true (by omega)); exact (show (1 : Int32).toInt = 1 from by decide).trans (if_pos ⟨c9.1, e7⟩).symm) kKR_19 kKN_19 kKZ9_19 kKNM_19 (by have := kKR_19.1 15 _ _ rfl; have := kKR_19.1 16 _ _ rfl; have := kKR_19.1 19 _ _ rfl; omega))
          have : (0 : Int32).toInt = 0 := by decide
          exact mv_less (Nat.zero_le _) (Nat.zero_le _) (L39_19 4294967296 0 0 T_2 M_2 n_2 I_2 h_q0_2 (by have := kKR_2.1 15 _ _ rfl; have := kKR_2.1 16 _ _ rfl; have := kKR_2.1 19 _ _ rfl; first | omega | decide | exact fun h9 => absurd (by decide) h9) (by have := kKR_2.1 15 _ _ rfl; have := kKR_2.1 16 _ _ rfl; have := kKR_2.1 19 _ _ rfl; first | omega | decide | exact fun h9 => absurd (by decide) h9) (by have := kKR_2.1 15 _ _ rfl; have := kKR_2.1 16 _ _ rfl; have := kKR_2.1 19 _ _ rfl; first | omega | decide | exact fun h9 => absurd (by decide) h9) (by have := kKR_2.1 15 _ _ rfl; have := kKR_2.1 16 _ _ rfl; have := kKR_2.1 19 _ _ rfl; first | omega | decide | exact fun h9 => absurd (by decide) h9) (by have := kKR_2.1 15 _ _ rfl; have := kKR_2.1 16 _ _ rfl; have := kKR_2.1 19 _ _ rfl; first | omega | decide | exact fun h9 => absurd (by decide) h9) (by have := kKR_2.1 15 _ _ rfl; have := kKR_2.1 16 _ _ rfl; have := kKR_2.1 19 _ _ rfl; first | omega | decide | exact fun h9 => absurd (by decide) h9) (by have := kKR_2.1 15 _ _ rfl; have := kKR_2.1 16 _ _ rfl; have := kKR_2.1 19 _ _ rfl; first | omega | decide | exact fun h9 => absurd (by decide) h9) (by have := kKR_2.1 15 _ _ rfl; have := kKR_2.1 16 _ _ rfl; have := kKR_2.1 19 _ _ rfl; first | omega | decide | exact fun h9 => absurd (by decide) h9) (by have := kKR_2.1 15 _ _ rfl; have := kKR_2.1 16 _ _ rfl; have := kKR_2.1 19 _ _ rfl; first | omega | decide | exact fun h9 => absurd (by decide) h9) (by have := kKR_2.1 15 _ _ rfl; have := kKR_2.1 16 _ _ rfl; have := kKR_2.1 19 _ _ rfl; first | omega | decide | exact fun h9 => absurd (by decide) h9) (by have := kKR_2.1 15 _ _ rfl; have := kKR_2.1 16 _ _ rfl; have := kKR_2.1 19 _ _ rfl; first | omega | decide | exact fun h9 => absurd (by decide) h9) ((show (0 : Int32).toInt = 0 from by decide).trans (if_neg (fun h8 => by have := h8.1; omega)).symm) kKR_2 kKN_2 kKZ9_2 kKNM_2 (by show (2147483647 - (0 : Int) : Int) < _; decide))
        · refine mv_iconst (v := 1) d_TrustDeskModel_isThere_30 (by decide) ?_
          refine mv_goto (tgt := 35) d_TrustDeskModel_isThere_31 (by decide) ?_
          refine mv_istore_n (lv' := [(3, .int 1), (2, .int i2_2), (1, .int i1_2), (0, .ref o0)]) d_TrustDeskModel_isThere_35 rfl (by decide) rfl ?_
          refine mv_iconst (v := 0) d_TrustDeskModel_isThere_36 (by decide) ?_
          refine mv_istore (lv' := [(4, .int 0), (3, .int 1), (2, .int i2_2), (1, .int i1_2), (0, .ref o0)]) d_TrustDeskModel_isThere_37 (by decide) rfl ?_
          have L39_63 : ∀ (k : Nat) (i4_63 : Int32) (i3_63 : Int32) (T_63 : tm_H) (M_63 : mj_M) (n_63 : Nat), tm_I tm_FT (tm_in w_TrustDeskModel_isThere_x) x9 T0 M0 n0 T_63 M_63 n_63 → T_63 o0 = some (0, 13, 0) → 0 ≤ i4_63.toInt → rv M_63 o0 15 = rv M0 o0 15 → rv M_63 o0 16 = rv M0 o0 16 → rv M_63 o0 24 = rv M0 o0 24 → 0 ≤ i2_2.toInt → i2_2.toInt < rv M_63 o0 24 → 0 ≤ i3_63.toInt → i3_63.toInt ≤ 1 → (i3_63.toInt ≠ 0 → ra M_63 o0 26 (i2_2).toNatClampNeg = rv M0 o0 15 - rv M0 o0 16) → 0 ≤ i4_63.toInt → i4_63.toInt ≤ (q10.2 : Int) - (q10.1 : Int) → i3_63.toInt = (if q10.2 - q10.1 = psp - pst ∧ p_sam pb (i4_63.toInt).toNat q10.1 pst = true then 1 else 0) → (rI M_63 o0) → (nN M_63 o0) → (pO M_63 o0 pb pn pa ps) → (pN M_63 o0 pn pN9) → 2147483647 - i4_63.toInt < (k : Int) → mj_V g l kY_TrustDeskModel_isThere d 39 [(4, .int i4_63), (3, .int i3_63), (2, .int i2_2), (1, .int i1_2), (0, .ref o0)] [] M_63 n_63 0 0 (tm_Q tm_FT (tm_in w_TrustDeskModel_isThere_x) x9 T0 M0 n0 (fun r _ M => ∃ v : Int32, r = some (.int v) ∧ 0 ≤ v.toInt ∧ v.toInt ≤ 1 ∧ rI M o0 ∧ (v.toInt = p_hs pb pN9 (p_st pb pn ps.2.2) (p_sp pb pn ps.2.2)))) := by
            intro k63
            induction k63 with
            | zero =>
              intro i4_63 i3_63 T_63 M_63 n_63 I_63 h_q0_63 iv0_63 iv1_63 iv2_63 iv3_63 iv4_63 iv5_63 iv6_63 iv7_63 iv8_63 iv9_63 iv10_63 iv11_63 kKR_63 kKN_63 kKZ9_63 kKNM_63 hk63
              have := mz_hi i4_63
              have := kKR_63.1 15 _ _ rfl
              have := kKR_63.1 16 _ _ rfl
              have := kKR_63.1 19 _ _ rfl
              omega
            | succ k63 ih63 =>
              intro i4_63 i3_63 T_63 M_63 n_63 I_63 h_q0_63 iv0_63 iv1_63 iv2_63 iv3_63 iv4_63 iv5_63 iv6_63 iv7_63 iv8_63 iv9_63 iv10_63 iv11_63 kKR_63 kKN_63 kKZ9_63 kKNM_63 hk63
              have := kKNM_63.2 _ _ h11
              refine mv_iload d_TrustDeskModel_isThere_39 rfl ?_
              refine mv_aload_n d_TrustDeskModel_isThere_41 rfl rfl ?_
              obtain ⟨a65, q64, t_a65⟩ := tm_atR I_63 h_q0_63 (k := 26) rfl
              refine tr_getK q64 d_TrustDeskModel_isThere_42 f_TrustDeskModel_54_13 ?_
              refine mv_iload_n d_TrustDeskModel_isThere_45 rfl rfl ?_
              refine tr_ialdR (o := o0) (k := 26) I_63 q64 t_a65 (by decide) d_TrustDeskModel_isThere_46 (vp_in_iff.mpr (by have := kKR_63.1 15 _ _ rfl; have := kKR_63.1 16 _ _ rfl; have := kKR_63.1 19 _ _ rfl; omega)) (fun v66 e67 => ?_)
              have := kKR_63.a (k := 26) rfl (i2_2 : Int32).toNatClampNeg
              have h68 : i2_2.toNatClampNeg = (i2_2.toInt).toNat := by have := mz_nat9 (i := i2_2) (by have := kKR_63.1 15 _ _ rfl; have := kKR_63.1 16 _ _ rfl; have := kKR_63.1 19 _ _ rfl; omega); have := kKR_63.1 15 _ _ rfl; have := kKR_63.1 16 _ _ rfl; have := kKR_63.1 19 _ _ rfl; omega
              have : v66.toInt = ra M_63 o0 26 (i2_2.toInt).toNat := by rw [e67, h68]
              have := kKNM_63.2 _ _ h11
              have := mz_hi i4_63
              have := mz_hi v66
              refine mv_icmp_geZ (tgt := 95) (a := i4_63.toInt) (b := v66.toInt) d_TrustDeskModel_isThere_47 (by decide) rfl rfl (fun b69 => ?_) (fun b69 => ?_)
              · refine mv_iload_n d_TrustDeskModel_isThere_95 rfl rfl ?_
                have := mz_hi i1_2
                refine mv_if_neZ (tgt := 103) (a := i1_2.toInt) d_TrustDeskModel_isThere_96 (by decide) rfl (fun b70 => ?_) (fun b70 => ?_)
                · refine mv_iconst (v := 1) d_TrustDeskModel_isThere_103 (by decide) ?_
                  refine mv_goto (tgt := 108) d_TrustDeskModel_isThere_104 (by decide) ?_
                  refine mv_istore_n (lv' := [(1, .int 1), (4, .int i4_63), (3, .int i3_63), (2, .int i2_2), (0, .ref o0)]) d_TrustDeskModel_isThere_108 rfl (by decide) rfl ?_
                  refine mv_iinc (v := (i2_2 + 1)) (lv' := [(2, .int (i2_2 + 1)), (1, .int 1), (4, .int i4_63), (3, .int i3_63), (0, .ref o0)]) d_TrustDeskModel_isThere_109 rfl rfl (by decide) rfl ?_
                  refine mv_goto (tgt := 4) d_TrustDeskModel_isThere_112 (by decide) ?_
                  have : (1 : Int32).toInt = 1 := by decide
                  have b71 : (i2_2 + 1 : Int32).toInt = (i2_2.toInt + 1) := mz_add2 rfl (by decide) (by have := kKR_63.1 15 _ _ rfl; have := kKR_63.1 16 _ _ rfl; have := kKR_63.1 19 _ _ rfl; omega) (by have := kKR_63.1 15 _ _ rfl; have := kKR_63.1 16 _ _ rfl; have := kKR_63.1 19 _ _ rfl; omega)
                  refine mv_locals (lv' := [(2, .int (i2_2 + 1)), (1, .int 1), (0, .ref o0)]) (by intro q hq; simp only [List.mem_cons, List.not_mem_nil, or_false] at hq; rcases hq with rfl | rfl | rfl <;> rfl) ?_
                  have b72 : (i2_2 + 1).toInt = i2_2.toInt + 1 := mz_addn 1 1 (by decide) (by have := mz_lo i2_2; omega) (by have := mz_hi i2_2; omega)
                  exact (ih2 (i2_2 + 1) 1 T_63 M_63 n_63 I_63 h_q0_63 (by have := kKR_63.1 15 _ _ rfl; have := kKR_63.1 16 _ _ rfl; have := kKR_63.1 19 _ _ rfl; first | omega | decide | exact fun h9 => absurd (by decide) h9) (by have := kKR_63.1 15 _ _ rfl; have := kKR_63.1 16 _ _ rfl; have := kKR_63.1 19 _ _ rfl; first | omega | decide | exact fun h9 => absurd (by decide) h9) (by have := kKR_63.1 15 _ _ rfl; have := kKR_63.1 16 _ _ rfl; have := kKR_63.1 19 _ _ rfl; first | omega | decide | exact fun h9 => absurd (by decide) h9) (by have := kKR_63.1 15 _ _ rfl; have := kKR_63.1 16 _ _ rfl; have := kKR_63.1 19 _ _ rfl; first | omega | decide | exact fun h9 => absurd (by decide) h9) (by have := kKR_63.1 15 _ _ rfl; have := kKR_63.1 16 _ _ rfl; have := kKR_63.1 19 _ _ rfl; first | omega | decide | exact fun h9 => absurd (by decide) h9) (by have := kKR_63.1 15 _ _ rfl; have := kKR_63.1 16 _ _ rfl; have := kKR_63.1 19 _ _ rfl; first | omega | decide | exact fun h9 => absurd (by decide) h9) (by have := kKR_63.1 15 _ _ rfl; have := kKR_63.1 16 _ _ rfl; have := kKR_63.1 19 _ _ rfl; first | omega | decide | exact fun h9 => absurd (by decide) h9) (by have e8 : ((i2_2 + 1).toInt).toNat = (i2_2.toInt).toNat + 1 := (by omega); have e7 := p_sm_of (b := pb) (k := (i4_63.toInt).toNat) iv11_63 (by omega) (by intro h9; omega); have e6 := p_sm_r (b := pb) (q := q10) (s := pst) (e := psp); rw [e8, p_hs_out pN9 _ q10 pst psp h11]; split <;> omega) kKR_63 kKN_63 kKZ9_63 kKNM_63 (by have := kKR_63.1 15 _ _ rfl; have := kKR_63.1 16 _ _ rfl; have := kKR_63.1 19 _ _ rfl; omega))
                · refine mv_iload_n d_TrustDeskModel_isThere_99 rfl rfl ?_
                  have := mz_hi i3_63
                  refine mv_if_eqZ (tgt := 107) (a := i3_63.toInt) d_TrustDeskModel_isThere_100 (by decide) rfl (fun b73 => ?_) (fun b73 => ?_)
                  · refine mv_iconst (v := 0) d_TrustDeskModel_isThere_107 (by decide) ?_
                    refine mv_istore_n (lv' := [(1, .int 0), (4, .int i4_63), (3, .int i3_63), (2, .int i2_2), (0, .ref o0)]) d_TrustDeskModel_isThere_108 rfl (by decide) rfl ?_
                    refine mv_iinc (v := (i2_2 + 1)) (lv' := [(2, .int (i2_2 + 1)), (1, .int 0), (4, .int i4_63), (3, .int i3_63), (0, .ref o0)]) d_TrustDeskModel_isThere_109 rfl rfl (by decide) rfl ?_
                    refine mv_goto (tgt := 4) d_TrustDeskModel_isThere_112 (by decide) ?_
                    have : (0 : Int32).toInt = 0 := by decide
                    have b74 : (i2_2 + 1 : Int32).toInt = (i2_2.toInt + 1) := mz_add2 rfl (by decide) (by have := kKR_63.1 15 _ _ rfl; have := kKR_63.1 16 _ _ rfl; have := kKR_63.1 19 _ _ rfl; omega) (by have := kKR_63.1 15 _ _ rfl; have := kKR_63.1 16 _ _ rfl; have := kKR_63.1 19 _ _ rfl; omega)
                    refine mv_locals (lv' := [(2, .int (i2_2 + 1)), (1, .int 0), (0, .ref o0)]) (by intro q hq; simp only [List.mem_cons, List.not_mem_nil, or_false] at hq; rcases hq with rfl | rfl | rfl <;> rfl) ?_
                    have b75 : (i2_2 + 1).toInt = i2_2.toInt + 1 := mz_addn 1 1 (by decide) (by have := mz_lo i2_2; omega) (by have := mz_hi i2_2; omega)
                    exact (ih2 (i2_2 + 1) 0 T_63 M_63 n_63 I_63 h_q0_63 (by have := kKR_63.1 15 _ _ rfl; have := kKR_63.1 16 _ _ rfl; have := kKR_63.1 19 _ _ rfl; first | omega | decide | exact fun h9 => absurd (by decide) h9) (by have := kKR_63.1 15 _ _ rfl; have := kKR_63.1 16 _ _ rfl; have := kKR_63.1 19 _ _ rfl; first | omega | decide | exact fun h9 => absurd (by decide) h9) (by have := kKR_63.1 15 _ _ rfl; have := kKR_63.1 16 _ _ rfl; have := kKR_63.1 19 _ _ rfl; first | omega | decide | exact fun h9 => absurd (by decide) h9) (by have := kKR_63.1 15 _ _ rfl; have := kKR_63.1 16 _ _ rfl; have := kKR_63.1 19 _ _ rfl; first | omega | decide | exact fun h9 => absurd (by decide) h9) (by have := kKR_63.1 15 _ _ rfl; have := kKR_63.1 16 _ _ rfl; have := kKR_63.1 19 _ _ rfl; first | omega | decide | exact fun h9 => absurd (by decide) h9) (by have := kKR_63.1 15 _ _ rfl; have := kKR_63.1 16 _ _ rfl; have := kKR_63.1 19 _ _ rfl; first | omega | decide | exact fun h9 => absurd (by decide) h9) (by have := kKR_63.1 15 _ _ rfl; have := kKR_63.1 16 _ _ rfl; have := kKR_63.1 19 _ _ rfl; first | omega | decide | exact fun h9 => absurd (by decide) h9) (by have e8 : ((i2_2 + 1).toInt).toNat = (i2_2.toInt).toNat + 1 := (by omega); have e7 := p_sm_of (b := pb) (k := (i4_63.toInt).toNat) iv11_63 (by omega) (by intro h9; omega); have e6 := p_sm_r (b := pb) (q := q10) (s := pst) (e := psp); rw [e8, p_hs_out pN9 _ q10 pst psp h11]; split <;> omega) kKR_63 kKN_63 kKZ9_63 kKNM_63 (by have := kKR_63.1 15 _ _ rfl; have := kKR_63.1 16 _ _ rfl; have := kKR_63.1 19 _ _ rfl; omega))
                  · refine mv_iconst (v := 1) d_TrustDeskModel_isThere_103 (by decide) ?_
                    refine mv_goto (tgt := 108) d_TrustDeskModel_isThere_104 (by decide) ?_
                    refine mv_istore_n (lv' := [(1, .int 1), (4, .int i4_63), (3, .int i3_63), (2, .int i2_2), (0, .ref o0)]) d_TrustDeskModel_isThere_108 rfl (by decide) rfl ?_
                    refine mv_iinc (v := (i2_2 + 1)) (lv' := [(2, .int (i2_2 + 1)), (1, .int 1), (4, .int i4_63), (3, .int i3_63), (0, .ref o0)]) d_TrustDeskModel_isThere_109 rfl rfl (by decide) rfl ?_
                    refine mv_goto (tgt := 4) d_TrustDeskModel_isThere_112 (by decide) ?_
                    have : (1 : Int32).toInt = 1 := by decide
                    have b76 : (i2_2 + 1 : Int32).toInt = (i2_2.toInt + 1) := mz_add2 rfl (by decide) (by have := kKR_63.1 15 _ _ rfl; have := kKR_63.1 16 _ _ rfl; have := kKR_63.1 19 _ _ rfl; omega) (by have := kKR_63.1 15 _ _ rfl; have := kKR_63.1 16 _ _ rfl; have := kKR_63.1 19 _ _ rfl; omega)
                    refine mv_locals (lv' := [(2, .int (i2_2 + 1)), (1, .int 1), (0, .ref o0)]) (by intro q hq; simp only [List.mem_cons, List.not_mem_nil, or_false] at hq; rcases hq with rfl | rfl | rfl <;> rfl) ?_
                    have b77 : (i2_2 + 1).toInt = i2_2.toInt + 1 := mz_addn 1 1 (by decide) (by have := mz_lo i2_2; omega) (by have := mz_hi i2_2; omega)
                    exact (ih2 (i2_2 + 1) 1 T_63 M_63 n_63 I_63 h_q0_63 (by have := kKR_63.1 15 _ _ rfl; have := kKR_63.1 16 _ _ rfl; have := kKR_63.1 19 _ _ rfl; first | omega | decide | exact fun h9 => absurd (by decide) h9) (by have := kKR_63.1 15 _ _ rfl; have := kKR_63.1 16 _ _ rfl; have := kKR_63.1 19 _ _ rfl; first | omega | decide | exact fun h9 => absurd (by decide) h9) (by have := kKR_63.1 15 _ _ rfl; have := kKR_63.1 16 _ _ rfl; have := kKR_63.1 19 _ _ rfl; first | omega | decide | exact fun h9 => absurd (by decide) h9) (by have := kKR_63.1 15 _ _ rfl; have := kKR_63.1 16 _ _ rfl; have := kKR_63.1 19 _ _ rfl; first | omega | decide | exact fun h9 => absurd (by decide) h9) (by have := kKR_63.1 15 _ _ rfl; have := kKR_63.1 16 _ _ rfl; have := kKR_63.1 19 _ _ rfl; first | omega | decide | exact fun h9 => absurd (by decide) h9) (by have := kKR_63.1 15 _ _ rfl; have := kKR_63.1 16 _ _ rfl; have := kKR_63.1 19 _ _ rfl; first | omega | decide | exact fun h9 => absurd (by decide) h9) (by have := kKR_63.1 15 _ _ rfl; have := kKR_63.1 16 _ _ rfl; have := kKR_63.1 19 _ _ rfl; first | omega | decide | exact fun h9 => absurd (by decide) h9) (by have e8 : ((i2_2 + 1).toInt).toNat = (i2_2.toInt).toNat + 1 := (by omega); have e7 := p_sm_of (b := pb) (k := (i4_63.toInt).toNat) iv11_63 (by omega) (by intro h9; omega); have e6 := p_sm_r (b := pb) (q := q10) (s := pst) (e := psp); rw [e8, p_hs_out pN9 _ q10 pst psp h11]; split <;> omega) kKR_63 kKN_63 kKZ9_63 kKNM_63 (by have := kKR_63.1 15 _ _ rfl; have := kKR_63.1 16 _ _ rfl; have := kKR_63.1 19 _ _ rfl; omega))
              · refine mv_iload_n d_TrustDeskModel_isThere_50 rfl rfl ?_
                have := mz_hi i3_63
                refine mv_if_eqZ (tgt := 95) (a := i3_63.toInt) d_TrustDeskModel_isThere_51 (by decide) rfl (fun b78 => ?_) (fun b78 => ?_)
                · refine mv_iload_n d_TrustDeskModel_isThere_95 rfl rfl ?_
                  have := mz_hi i1_2
                  refine mv_if_neZ (tgt := 103) (a := i1_2.toInt) d_TrustDeskModel_isThere_96 (by decide) rfl (fun b79 => ?_) (fun b79 => ?_)
                  · refine mv_iconst (v := 1) d_TrustDeskModel_isThere_103 (by decide) ?_
                    refine mv_goto (tgt := 108) d_TrustDeskModel_isThere_104 (by decide) ?_
                    refine mv_istore_n (lv' := [(1, .int 1), (4, .int i4_63), (3, .int i3_63), (2, .int i2_2), (0, .ref o0)]) d_TrustDeskModel_isThere_108 rfl (by decide) rfl ?_
                    refine mv_iinc (v := (i2_2 + 1)) (lv' := [(2, .int (i2_2 + 1)), (1, .int 1), (4, .int i4_63), (3, .int i3_63), (0, .ref o0)]) d_TrustDeskModel_isThere_109 rfl rfl (by decide) rfl ?_
                    refine mv_goto (tgt := 4) d_TrustDeskModel_isThere_112 (by decide) ?_
                    have : (1 : Int32).toInt = 1 := by decide
                    have b80 : (i2_2 + 1 : Int32).toInt = (i2_2.toInt + 1) := mz_add2 rfl (by decide) (by have := kKR_63.1 15 _ _ rfl; have := kKR_63.1 16 _ _ rfl; have := kKR_63.1 19 _ _ rfl; omega) (by have := kKR_63.1 15 _ _ rfl; have := kKR_63.1 16 _ _ rfl; have := kKR_63.1 19 _ _ rfl; omega)
                    refine mv_locals (lv' := [(2, .int (i2_2 + 1)), (1, .int 1), (0, .ref o0)]) (by intro q hq; simp only [List.mem_cons, List.not_mem_nil, or_false] at hq; rcases hq with rfl | rfl | rfl <;> rfl) ?_
                    have b81 : (i2_2 + 1).toInt = i2_2.toInt + 1 := mz_addn 1 1 (by decide) (by have := mz_lo i2_2; omega) (by have := mz_hi i2_2; omega)
                    exact (ih2 (i2_2 + 1) 1 T_63 M_63 n_63 I_63 h_q0_63 (by have := kKR_63.1 15 _ _ rfl; have := kKR_63.1 16 _ _ rfl; have := kKR_63.1 19 _ _ rfl; first | omega | decide | exact fun h9 => absurd (by decide) h9) (by have := kKR_63.1 15 _ _ rfl; have := kKR_63.1 16 _ _ rfl; have := kKR_63.1 19 _ _ rfl; first | omega | decide | exact fun h9 => absurd (by decide) h9) (by have := kKR_63.1 15 _ _ rfl; have := kKR_63.1 16 _ _ rfl; have := kKR_63.1 19 _ _ rfl; first | omega | decide | exact fun h9 => absurd (by decide) h9) (by have := kKR_63.1 15 _ _ rfl; have := kKR_63.1 16 _ _ rfl; have := kKR_63.1 19 _ _ rfl; first | omega | decide | exact fun h9 => absurd (by decide) h9) (by have := kKR_63.1 15 _ _ rfl; have := kKR_63.1 16 _ _ rfl; have := kKR_63.1 19 _ _ rfl; first | omega | decide | exact fun h9 => absurd (by decide) h9) (by have := kKR_63.1 15 _ _ rfl; have := kKR_63.1 16 _ _ rfl; have := kKR_63.1 19 _ _ rfl; first | omega | decide | exact fun h9 => absurd (by decide) h9) (by have := kKR_63.1 15 _ _ rfl; have := kKR_63.1 16 _ _ rfl; have := kKR_63.1 19 _ _ rfl; first | omega | decide | exact fun h9 => absurd (by decide) h9) (by have e8 : ((i2_2 + 1).toInt).toNat = (i2_2.toInt).toNat + 1 := (by omega); have e7 := p_sm_of (b := pb) (k := (i4_63.toInt).toNat) iv11_63 (by omega) (by intro h9; omega); have e6 := p_sm_r (b := pb) (q := q10) (s := pst) (e := psp); rw [e8, p_hs_out pN9 _ q10 pst psp h11]; split <;> omega) kKR_63 kKN_63 kKZ9_63 kKNM_63 (by have := kKR_63.1 15 _ _ rfl; have := kKR_63.1 16 _ _ rfl; have := kKR_63.1 19 _ _ rfl; omega))
                  · refine mv_iload_n d_TrustDeskModel_isThere_99 rfl rfl ?_
                    have := mz_hi i3_63
                    refine mv_if_eqZ (tgt := 107) (a := i3_63.toInt) d_TrustDeskModel_isThere_100 (by decide) rfl (fun b82 => ?_) (fun b82 => absurd b82 (by omega))
                    refine mv_iconst (v := 0) d_TrustDeskModel_isThere_107 (by decide) ?_
                    refine mv_istore_n (lv' := [(1, .int 0), (4, .int i4_63), (3, .int i3_63), (2, .int i2_2), (0, .ref o0)]) d_TrustDeskModel_isThere_108 rfl (by decide) rfl ?_
                    refine mv_iinc (v := (i2_2 + 1)) (lv' := [(2, .int (i2_2 + 1)), (1, .int 0), (4, .int i4_63), (3, .int i3_63), (0, .ref o0)]) d_TrustDeskModel_isThere_109 rfl rfl (by decide) rfl ?_
                    refine mv_goto (tgt := 4) d_TrustDeskModel_isThere_112 (by decide) ?_
                    have : (0 : Int32).toInt = 0 := by decide
                    have b83 : (i2_2 + 1 : Int32).toInt = (i2_2.toInt + 1) := mz_add2 rfl (by decide) (by have := kKR_63.1 15 _ _ rfl; have := kKR_63.1 16 _ _ rfl; have := kKR_63.1 19 _ _ rfl; omega) (by have := kKR_63.1 15 _ _ rfl; have := kKR_63.1 16 _ _ rfl; have := kKR_63.1 19 _ _ rfl; omega)
                    refine mv_locals (lv' := [(2, .int (i2_2 + 1)), (1, .int 0), (0, .ref o0)]) (by intro q hq; simp only [List.mem_cons, List.not_mem_nil, or_false] at hq; rcases hq with rfl | rfl | rfl <;> rfl) ?_
                    have b84 : (i2_2 + 1).toInt = i2_2.toInt + 1 := mz_addn 1 1 (by decide) (by have := mz_lo i2_2; omega) (by have := mz_hi i2_2; omega)
                    exact (ih2 (i2_2 + 1) 0 T_63 M_63 n_63 I_63 h_q0_63 (by have := kKR_63.1 15 _ _ rfl; have := kKR_63.1 16 _ _ rfl; have := kKR_63.1 19 _ _ rfl; first | omega | decide | exact fun h9 => absurd (by decide) h9) (by have := kKR_63.1 15 _ _ rfl; have := kKR_63.1 16 _ _ rfl; have := kKR_63.1 19 _ _ rfl; first | omega | decide | exact fun h9 => absurd (by decide) h9) (by have := kKR_63.1 15 _ _ rfl; have := kKR_63.1 16 _ _ rfl; have := kKR_63.1 19 _ _ rfl; first | omega | decide | exact fun h9 => absurd (by decide) h9) (by have := kKR_63.1 15 _ _ rfl; have := kKR_63.1 16 _ _ rfl; have := kKR_63.1 19 _ _ rfl; first | omega | decide | exact fun h9 => absurd (by decide) h9) (by have := kKR_63.1 15 _ _ rfl; have := kKR_63.1 16 _ _ rfl; have := kKR_63.1 19 _ _ rfl; first | omega | decide | exact fun h9 => absurd (by decide) h9) (by have := kKR_63.1 15 _ _ rfl; have := kKR_63.1 16 _ _ rfl; have := kKR_63.1 19 _ _ rfl; first | omega | decide | exact fun h9 => absurd (by decide) h9) (by have := kKR_63.1 15 _ _ rfl; have := kKR_63.1 16 _ _ rfl; have := kKR_63.1 19 _ _ rfl; first | omega | decide | exact fun h9 => absurd (by decide) h9) (by have e8 : ((i2_2 + 1).toInt).toNat = (i2_2.toInt).toNat + 1 := (by omega); have e7 := p_sm_of (b := pb) (k := (i4_63.toInt).toNat) iv11_63 (by omega) (by intro h9; omega); have e6 := p_sm_r (b := pb) (q := q10) (s := pst) (e := psp); rw [e8, p_hs_out pN9 _ q10 pst psp h11]; split <;> omega) kKR_63 kKN_63 kKZ9_63 kKNM_63 (by have := kKR_63.1 15 _ _ rfl; have := kKR_63.1 16 _ _ rfl; have := kKR_63.1 19 _ _ rfl; omega))
                · refine mv_aload_n d_TrustDeskModel_isThere_54 rfl rfl ?_
                  obtain ⟨a86, q85, t_a86⟩ := tm_atR I_63 h_q0_63 (k := 13) rfl
                  refine tr_getK q85 d_TrustDeskModel_isThere_55 f_TrustDeskModel_44_13 ?_
                  refine mv_aload_n d_TrustDeskModel_isThere_58 rfl rfl ?_
                  obtain ⟨v88, q87⟩ := tm_atI I_63 h_q0_63 (k := 16) rfl
                  refine tr_getK q87 d_TrustDeskModel_isThere_59 f_TrustDeskModel_195_13 ?_
                  have := kKR_63.f (k := 16) q87 rfl
                  have := tm_rv q87
                  refine mv_iload d_TrustDeskModel_isThere_62 rfl ?_
                  refine mv_iadd d_TrustDeskModel_isThere_64 ?_
                  have b89 : (v88 + i4_63 : Int32).toInt = (v88.toInt + i4_63.toInt) := mz_add2 rfl rfl (by have := kKR_63.1 15 _ _ rfl; have := kKR_63.1 16 _ _ rfl; have := kKR_63.1 19 _ _ rfl; omega) (by have := kKR_63.1 15 _ _ rfl; have := kKR_63.1 16 _ _ rfl; have := kKR_63.1 19 _ _ rfl; omega)
                  refine tr_baldR (o := o0) (k := 13) I_63 q85 t_a86 (by decide) d_TrustDeskModel_isThere_65 (vp_in_iff.mpr (by have := kKR_63.1 15 _ _ rfl; have := kKR_63.1 16 _ _ rfl; have := kKR_63.1 19 _ _ rfl; omega)) (fun v90 e91 => ?_)
                  have := kKR_63.a (k := 13) rfl ((v88 + i4_63) : Int32).toNatClampNeg
                  have h92 : (v88 + i4_63).toNatClampNeg = pst + (i4_63.toInt).toNat := by have := mz_nat9 (i := (v88 + i4_63)) (by have := kKR_63.1 15 _ _ rfl; have := kKR_63.1 16 _ _ rfl; have := kKR_63.1 19 _ _ rfl; omega); have := kKR_63.1 15 _ _ rfl; have := kKR_63.1 16 _ _ rfl; have := kKR_63.1 19 _ _ rfl; omega
                  have := kKZ9_63.1.byte (p := pst + (i4_63.toInt).toNat) (v := v90.toInt) (by have := kKZ9_63.1.1; have := kKR_63.1 15 _ _ rfl; have := kKR_63.1 16 _ _ rfl; have := kKR_63.1 19 _ _ rfl; omega) (by rw [e91, h92])
                  refine mv_aload_n d_TrustDeskModel_isThere_66 rfl rfl ?_
                  refine tr_getK (k := 13) q85 d_TrustDeskModel_isThere_67 f_TrustDeskModel_44_13 ?_
                  refine mv_aload_n d_TrustDeskModel_isThere_70 rfl rfl ?_
                  obtain ⟨a94, q93, t_a94⟩ := tm_atR I_63 h_q0_63 (k := 25) rfl
                  refine tr_getK q93 d_TrustDeskModel_isThere_71 f_TrustDeskModel_51_13 ?_
                  refine mv_iload_n d_TrustDeskModel_isThere_74 rfl rfl ?_
                  refine tr_ialdR (o := o0) (k := 25) I_63 q93 t_a94 (by decide) d_TrustDeskModel_isThere_75 (vp_in_iff.mpr (by have := kKR_63.1 15 _ _ rfl; have := kKR_63.1 16 _ _ rfl; have := kKR_63.1 19 _ _ rfl; omega)) (fun v95 e96 => ?_)
                  have := kKR_63.a (k := 25) rfl (i2_2 : Int32).toNatClampNeg
                  have h97 : i2_2.toNatClampNeg = (i2_2.toInt).toNat := by have := mz_nat9 (i := i2_2) (by have := kKR_63.1 15 _ _ rfl; have := kKR_63.1 16 _ _ rfl; have := kKR_63.1 19 _ _ rfl; omega); have := kKR_63.1 15 _ _ rfl; have := kKR_63.1 16 _ _ rfl; have := kKR_63.1 19 _ _ rfl; omega
                  have : v95.toInt = ra M_63 o0 25 (i2_2.toInt).toNat := by rw [e96, h97]
                  have := kKNM_63.2 _ _ h11
                  refine mv_iload d_TrustDeskModel_isThere_76 rfl ?_
                  refine mv_iadd d_TrustDeskModel_isThere_78 ?_
                  have b98 : (v95 + i4_63 : Int32).toInt = (v95.toInt + i4_63.toInt) := mz_add2 rfl rfl (by have := kKR_63.1 15 _ _ rfl; have := kKR_63.1 16 _ _ rfl; have := kKR_63.1 19 _ _ rfl; omega) (by have := kKR_63.1 15 _ _ rfl; have := kKR_63.1 16 _ _ rfl; have := kKR_63.1 19 _ _ rfl; omega)
                  refine tr_baldR (o := o0) (k := 13) I_63 q85 t_a86 (by decide) d_TrustDeskModel_isThere_79 (vp_in_iff.mpr (by have := kKR_63.1 15 _ _ rfl; have := kKR_63.1 16 _ _ rfl; have := kKR_63.1 19 _ _ rfl; omega)) (fun v99 e100 => ?_)
                  have := kKR_63.a (k := 13) rfl ((v95 + i4_63) : Int32).toNatClampNeg
                  have h101 : (v95 + i4_63).toNatClampNeg = q10.1 + (i4_63.toInt).toNat := by have := mz_nat9 (i := (v95 + i4_63)) (by have := kKR_63.1 15 _ _ rfl; have := kKR_63.1 16 _ _ rfl; have := kKR_63.1 19 _ _ rfl; omega); have := kKR_63.1 15 _ _ rfl; have := kKR_63.1 16 _ _ rfl; have := kKR_63.1 19 _ _ rfl; omega
                  have := kKZ9_63.1.byte (p := q10.1 + (i4_63.toInt).toNat) (v := v99.toInt) (by have := kKZ9_63.1.1; have := kKR_63.1 15 _ _ rfl; have := kKR_63.1 16 _ _ rfl; have := kKR_63.1 19 _ _ rfl; omega) (by rw [e100, h101])
                  have := mz_hi v90
                  have := mz_hi v99
                  refine mv_icmp_neZ (tgt := 87) (a := v90.toInt) (b := v99.toInt) d_TrustDeskModel_isThere_80 (by decide) rfl rfl (fun b102 => ?_) (fun b102 => ?_)
                  · refine mv_iconst (v := 0) d_TrustDeskModel_isThere_87 (by decide) ?_
                    refine mv_istore_n (lv' := [(3, .int 0), (4, .int i4_63), (2, .int i2_2), (1, .int i1_2), (0, .ref o0)]) d_TrustDeskModel_isThere_88 rfl (by decide) rfl ?_
                    refine mv_iinc (v := (i4_63 + 1)) (lv' := [(4, .int (i4_63 + 1)), (3, .int 0), (2, .int i2_2), (1, .int i1_2), (0, .ref o0)]) d_TrustDeskModel_isThere_89 rfl rfl (by decide) rfl ?_
                    refine mv_goto (tgt := 39) d_TrustDeskModel_isThere_92 (by decide) ?_
                    have : (0 : Int32).toInt = 0 := by decide
                    have b103 : (i4_63 + 1 : Int32).toInt = (i4_63.toInt + 1) := mz_add2 rfl (by decide) (by have := kKR_63.1 15 _ _ rfl; have := kKR_63.1 16 _ _ rfl; have := kKR_63.1 19 _ _ rfl; omega) (by have := kKR_63.1 15 _ _ rfl; have := kKR_63.1 16 _ _ rfl; have := kKR_63.1 19 _ _ rfl; omega)
                    have b104 : (i4_63 + 1).toInt = i4_63.toInt + 1 := mz_addn 1 1 (by decide) (by have := mz_lo i4_63; omega) (by have := mz_hi i4_63; omega)
                    exact (ih63 (i4_63 + 1) 0 T_63 M_63 n_63 I_63 h_q0_63 (by have := kKR_63.1 15 _ _ rfl; have := kKR_63.1 16 _ _ rfl; have := kKR_63.1 19 _ _ rfl; first | omega | decide | exact fun h9 => absurd (by decide) h9) (by have := kKR_63.1 15 _ _ rfl; have := kKR_63.1 16 _ _ rfl; have := kKR_63.1 19 _ _ rfl; first | omega | decide | exact fun h9 => absurd (by decide) h9) (by have := kKR_63.1 15 _ _ rfl; have := kKR_63.1 16 _ _ rfl; have := kKR_63.1 19 _ _ rfl; first | omega | decide | exact fun h9 => absurd (by decide) h9) (by have := kKR_63.1 15 _ _ rfl; have := kKR_63.1 16 _ _ rfl; have := kKR_63.1 19 _ _ rfl; first | omega | decide | exact fun h9 => absurd (by decide) h9) (by have := kKR_63.1 15 _ _ rfl; have := kKR_63.1 16 _ _ rfl; have := kKR_63.1 19 _ _ rfl; first | omega | decide | exact fun h9 => absurd (by decide) h9) (by have := kKR_63.1 15 _ _ rfl; have := kKR_63.1 16 _ _ rfl; have := kKR_63.1 19 _ _ rfl; first | omega | decide | exact fun h9 => absurd (by decide) h9) (by have := kKR_63.1 15 _ _ rfl; have := kKR_63.1 16 _ _ rfl; have := kKR_63.1 19 _ _ rfl; first | omega | decide | exact fun h9 => absurd (by decide) h9) (by have := kKR_63.1 15 _ _ rfl; have := kKR_63.1 16 _ _ rfl; have := kKR_63.1 19 _ _ rfl; first | omega | decide | exact fun h9 => absurd (by decide) h9) (by have := kKR_63.1 15 _ _ rfl; have := kKR_63.1 16 _ _ rfl; have := kKR_63.1 19 _ _ rfl; first | omega | decide | exact fun h9 => absurd (by decide) h9) (by have := kKR_63.1 15 _ _ rfl; have := kKR_63.1 16 _ _ rfl; have := kKR_63.1 19 _ _ rfl; first | omega | decide | exact fun h9 => absurd (by decide) h9) (by have := kKR_63.1 15 _ _ rfl; have := kKR_63.1 16 _ _ rfl; have := kKR_63.1 19 _ _ rfl; first | omega | decide | exact fun h9 => absurd (by decide) h9) (by have c9 : q10.2 - q10.1 = psp - pst ∧ p_sam pb (i4_63.toInt).toNat q10.1 pst = true := Classical.byContradiction (fun h9 => by have e9 := iv11_63; rw [if_neg h9] at e9; omega); have e8 : ((i4_63 + 1).toInt).toNat = (i4_63.toInt).toNat + 1 := (by omega); have e7 : ¬ p_sam pb ((i4_63 + 1).toInt).toNat q10.1 pst = true := (fun h9 => by rw [e8, p_sam_out, c9.2, Bool.true_and] at h9; exact absurd (of_decide_eq_true h9) (by omega)); exact (show (0 : Int32).toInt = 0 from by decide).trans (if_neg (fun h9 => e7 h9.2)).symm) kKR_63 kKN_63 kKZ9_63 kKNM_63 (by have := kKR_63.1 15 _ _ rfl; have := kKR_63.1 16 _ _ rfl; have := kKR_63.1 19 _ _ rfl; omega))
                  · refine mv_iconst (v := 1) d_TrustDeskModel_isThere_83 (by decide) ?_
                    refine mv_goto (tgt := 88) d_TrustDeskModel_isThere_84 (by decide) ?_
                    refine mv_istore_n (lv' := [(3, .int 1), (4, .int i4_63), (2, .int i2_2), (1, .int i1_2), (0, .ref o0)]) d_TrustDeskModel_isThere_88 rfl (by decide) rfl ?_
                    refine mv_iinc (v := (i4_63 + 1)) (lv' := [(4, .int (i4_63 + 1)), (3, .int 1), (2, .int i2_2), (1, .int i1_2), (0, .ref o0)]) d_TrustDeskModel_isThere_89 rfl rfl (by decide) rfl ?_
                    refine mv_goto (tgt := 39) d_TrustDeskModel_isThere_92 (by decide) ?_
                    have : (1 : Int32).toInt = 1 := by decide
                    have b105 : (i4_63 + 1 : Int32).toInt = (i4_63.toInt + 1) := mz_add2 rfl (by decide) (by have := kKR_63.1 15 _ _ rfl; have := kKR_63.1 16 _ _ rfl; have := kKR_63.1 19 _ _ rfl; omega) (by have := kKR_63.1 15 _ _ rfl; have := kKR_63.1 16 _ _ rfl; have := kKR_63.1 19 _ _ rfl; omega)
                    have b106 : (i4_63 + 1).toInt = i4_63.toInt + 1 := mz_addn 1 1 (by decide) (by have := mz_lo i4_63; omega) (by have := mz_hi i4_63; omega)
                    exact (ih63 (i4_63 + 1) 1 T_63 M_63 n_63 I_63 h_q0_63 (by have := kKR_63.1 15 _ _ rfl; have := kKR_63.1 16 _ _ rfl; have := kKR_63.1 19 _ _ rfl; first | omega | decide | exact fun h9 => absurd (by decide) h9) (by have := kKR_63.1 15 _ _ rfl; have := kKR_63.1 16 _ _ rfl; have := kKR_63.1 19 _ _ rfl; first | omega | decide | exact fun h9 => absurd (by decide) h9) (by have := kKR_63.1 15 _ _ rfl; have := kKR_63.1 16 _ _ rfl; have := kKR_63.1 19 _ _ rfl; first | omega | decide | exact fun h9 => absurd (by decide) h9) (by have := kKR_63.1 15 _ _ rfl; have := kKR_63.1 16 _ _ rfl; have := kKR_63.1 19 _ _ rfl; first | omega | decide | exact fun h9 => absurd (by decide) h9) (by have := kKR_63.1 15 _ _ rfl; have := kKR_63.1 16 _ _ rfl; have := kKR_63.1 19 _ _ rfl; first | omega | decide | exact fun h9 => absurd (by decide) h9) (by have := kKR_63.1 15 _ _ rfl; have := kKR_63.1 16 _ _ rfl; have := kKR_63.1 19 _ _ rfl; first | omega | decide | exact fun h9 => absurd (by decide) h9) (by have := kKR_63.1 15 _ _ rfl; have := kKR_63.1 16 _ _ rfl; have := kKR_63.1 19 _ _ rfl; first | omega | decide | exact fun h9 => absurd (by decide) h9) (by have := kKR_63.1 15 _ _ rfl; have := kKR_63.1 16 _ _ rfl; have := kKR_63.1 19 _ _ rfl; first | omega | decide | exact fun h9 => absurd (by decide) h9) (by have := kKR_63.1 15 _ _ rfl; have := kKR_63.1 16 _ _ rfl; have := kKR_63.1 19 _ _ rfl; first | omega | decide | exact fun h9 => absurd (by decide) h9) (by have := kKR_63.1 15 _ _ rfl; have := kKR_63.1 16 _ _ rfl; have := kKR_63.1 19 _ _ rfl; first | omega | decide | exact fun h9 => absurd (by decide) h9) (by have := kKR_63.1 15 _ _ rfl; have := kKR_63.1 16 _ _ rfl; have := kKR_63.1 19 _ _ rfl; first | omega | decide | exact fun h9 => absurd (by decide) h9) (by have c9 : q10.2 - q10.1 = psp - pst ∧ p_sam pb (i4_63.toInt).toNat q10.1 pst = true := Classical.byContradiction (fun h9 => by have e9 := iv11_63; rw [if_neg h9] at e9; omega); have e8 : ((i4_63 + 1).toInt).toNat = (i4_63.toInt).toNat + 1 := (by omega); have e7 : p_sam pb ((i4_63 + 1).toInt).toNat q10.1 pst = true := (by rw [e8, p_sam_out, c9.2, Bool.true_and]; exact decide_eq_true (by omega)); exact (show (1 : Int32).toInt = 1 from by decide).trans (if_pos ⟨c9.1, e7⟩).symm) kKR_63 kKN_63 kKZ9_63 kKNM_63 (by have := kKR_63.1 15 _ _ rfl; have := kKR_63.1 16 _ _ rfl; have := kKR_63.1 19 _ _ rfl; omega))
          have : (0 : Int32).toInt = 0 := by decide
          have : (1 : Int32).toInt = 1 := by decide
          exact mv_less (Nat.zero_le _) (Nat.zero_le _) (L39_63 4294967296 0 1 T_2 M_2 n_2 I_2 h_q0_2 (by have := kKR_2.1 15 _ _ rfl; have := kKR_2.1 16 _ _ rfl; have := kKR_2.1 19 _ _ rfl; first | omega | decide | exact fun h9 => absurd (by decide) h9) (by have := kKR_2.1 15 _ _ rfl; have := kKR_2.1 16 _ _ rfl; have := kKR_2.1 19 _ _ rfl; first | omega | decide | exact fun h9 => absurd (by decide) h9) (by have := kKR_2.1 15 _ _ rfl; have := kKR_2.1 16 _ _ rfl; have := kKR_2.1 19 _ _ rfl; first | omega | decide | exact fun h9 => absurd (by decide) h9) (by have := kKR_2.1 15 _ _ rfl; have := kKR_2.1 16 _ _ rfl; have := kKR_2.1 19 _ _ rfl; first | omega | decide | exact fun h9 => absurd (by decide) h9) (by have := kKR_2.1 15 _ _ rfl; have := kKR_2.1 16 _ _ rfl; have := kKR_2.1 19 _ _ rfl; first | omega | decide | exact fun h9 => absurd (by decide) h9) (by have := kKR_2.1 15 _ _ rfl; have := kKR_2.1 16 _ _ rfl; have := kKR_2.1 19 _ _ rfl; first | omega | decide | exact fun h9 => absurd (by decide) h9) (by have := kKR_2.1 15 _ _ rfl; have := kKR_2.1 16 _ _ rfl; have := kKR_2.1 19 _ _ rfl; first | omega | decide | exact fun h9 => absurd (by decide) h9) (by have := kKR_2.1 15 _ _ rfl; have := kKR_2.1 16 _ _ rfl; have := kKR_2.1 19 _ _ rfl; first | omega | decide | exact fun h9 => absurd (by decide) h9) (by have := kKR_2.1 15 _ _ rfl; have := kKR_2.1 16 _ _ rfl; have := kKR_2.1 19 _ _ rfl; first | omega | decide | exact fun h9 => absurd (by decide) h9) (by have := kKR_2.1 15 _ _ rfl; have := kKR_2.1 16 _ _ rfl; have := kKR_2.1 19 _ _ rfl; first | omega | decide | exact fun h9 => absurd (by decide) h9) (by have := kKR_2.1 15 _ _ rfl; have := kKR_2.1 16 _ _ rfl; have := kKR_2.1 19 _ _ rfl; first | omega | decide | exact fun h9 => absurd (by decide) h9) ((show (1 : Int32).toInt = 1 from by decide).trans (if_pos ⟨by omega, by rw [show (0 : Int32).toInt = 0 from by decide]; rfl⟩).symm) kKR_2 kKN_2 kKZ9_2 kKNM_2 (by show (2147483647 - (0 : Int) : Int) < _; decide))
  have : (0 : Int32).toInt = 0 := by decide
  exact mv_less (Nat.zero_le _) (Nat.zero_le _) (L4_2 4294967296 0 0 T0 M0 n0 I0 h_o0 (by have := yR.1 15 _ _ rfl; have := yR.1 16 _ _ rfl; have := yR.1 19 _ _ rfl; first | omega | decide | exact fun h9 => absurd (by decide) h9) (by have := yR.1 15 _ _ rfl; have := yR.1 16 _ _ rfl; have := yR.1 19 _ _ rfl; first | omega | decide | exact fun h9 => absurd (by decide) h9) (by have := yR.1 15 _ _ rfl; have := yR.1 16 _ _ rfl; have := yR.1 19 _ _ rfl; first | omega | decide | exact fun h9 => absurd (by decide) h9) (by have := yR.1 15 _ _ rfl; have := yR.1 16 _ _ rfl; have := yR.1 19 _ _ rfl; first | omega | decide | exact fun h9 => absurd (by decide) h9) (by have := yR.1 15 _ _ rfl; have := yR.1 16 _ _ rfl; have := yR.1 19 _ _ rfl; first | omega | decide | exact fun h9 => absurd (by decide) h9) (by have := yR.1 15 _ _ rfl; have := yR.1 16 _ _ rfl; have := yR.1 19 _ _ rfl; first | omega | decide | exact fun h9 => absurd (by decide) h9) (by have := yR.1 15 _ _ rfl; have := yR.1 16 _ _ rfl; have := yR.1 19 _ _ rfl; first | omega | decide | exact fun h9 => absurd (by decide) h9) (by rw [show (0 : Int32).toInt = 0 from by decide]; rfl) yR K1 yO yM (by show (2147483647 - (0 : Int) : Int) < _; decide))
