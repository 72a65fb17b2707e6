abbrev kY_TrustDeskModel_readClause : mj_Y := (⟨"TrustDeskModel", "readClause", "()V"⟩, prog_14_method_38_code, 4, (Option.none : Option Jvm.ClassFile.FieldType))
theorem d_TrustDeskModel_readClause_0 : decode kY_TrustDeskModel_readClause.2.1 0 = .ok (.aload_n 0, 1) := by decide +kernel
theorem d_TrustDeskModel_readClause_1 : decode kY_TrustDeskModel_readClause.2.1 1 = .ok (.ldc_w 336, 3) := by decide +kernel
theorem d_TrustDeskModel_readClause_4 : decode kY_TrustDeskModel_readClause.2.1 4 = .ok (.invokevirtual 244, 3) := by decide +kernel
def w_TrustDeskModel_isWord_s1_42_x : List Nat := []
set_option maxHeartbeats 100000000 in theorem tc_TrustDeskModel_isWord_s1_42_x {g : mj_G} {l : Launch} {d : Nat} {T0 : tm_H} {M0 : mj_M} {n0 x9 : Nat} {o0 : Nat} (h_o0 : T0 o0 = some (0, 13, 0)) (yR : rI M0 o0) (I0 : tm_I tm_FT (tm_in w_TrustDeskModel_isWord_s1_42_x) x9 T0 M0 n0 T0 M0 n0) : mj_Met g l kY_TrustDeskModel_isWord (d + 4) [.ref o0, .ref 42] M0 n0 0 0 (tm_Q tm_FT (tm_in w_TrustDeskModel_isWord_s1_42_x) x9 T0 M0 n0 (fun r _ M => ∃ v : Int32, r = some (.int v) ∧ 0 ≤ v.toInt ∧ v.toInt ≤ 1 ∧ rI M o0 ∧ (v.toInt = 1 → rv M0 o0 17 = 3) ∧ (v.toInt = 1 → rwE M0 o0) ∧ (v.toInt = 0 → ¬ rwE M0 o0))) := by
  refine mj_enter (by decide) (Nat.le_of_ble_eq_true rfl) ?_
  refine mv_aload_n d_TrustDeskModel_isWord_0 rfl rfl ?_
  obtain ⟨v2, q1⟩ := tm_atI I0 h_o0 (k := 17) rfl
  refine tr_getK q1 d_TrustDeskModel_isWord_1 f_TrustDeskModel_198_13 ?_
  have := tm_rv q1
  refine mv_iconst (v := 3) d_TrustDeskModel_isWord_4 (by decide) ?_
  have := mz_hi v2
  refine mv_icmp_neZ (tgt := 24) (a := v2.toInt) (b := 3) d_TrustDeskModel_isWord_5 (by decide) rfl (by decide) (fun b3 => ?_) (fun b3 => ?_)
  · refine mv_iconst (v := 0) d_TrustDeskModel_isWord_24 (by decide) ?_
    exact mv_iret d_TrustDeskModel_isWord_25 rfl (by decide) ⟨_, I0, _, rfl, by decide, by decide, yR, (fun h => absurd h (by decide)), (fun h => absurd h (by decide)), (fun _ h => by obtain ⟨h1, h2, h3, h4, h5⟩ := h; have := yR.1 15 _ _ rfl; have := yR.1 16 _ _ rfl; have := yR.1 19 _ _ rfl; omega)⟩
  · refine mv_aload_n d_TrustDeskModel_isWord_8 rfl rfl ?_
    obtain ⟨v5, q4⟩ := tm_atI I0 h_o0 (k := 15) rfl
    refine tr_getK q4 d_TrustDeskModel_isWord_9 f_TrustDeskModel_192_13 ?_
    have := yR.f (k := 15) q4 rfl
    have := tm_rv q4
    refine mv_aload_n d_TrustDeskModel_isWord_12 rfl rfl ?_
    obtain ⟨v7, q6⟩ := tm_atI I0 h_o0 (k := 16) rfl
    refine tr_getK q6 d_TrustDeskModel_isWord_13 f_TrustDeskModel_195_13 ?_
    have := yR.f (k := 16) q6 rfl
    have := tm_rv q6
    refine mv_isub d_TrustDeskModel_isWord_16 ?_
    refine mv_aload_n d_TrustDeskModel_isWord_17 rfl rfl ?_
    refine mv_slenK (i := 32) (v := 3) d_TrustDeskModel_isWord_18 lV_TrustDeskModel_214 (by decide) rfl (by decide) (Nat.le_of_ble_eq_true rfl) ?_
    have b8 : (v5 - v7 : Int32).toInt = (v5.toInt - v7.toInt) := mz_sub2 rfl rfl (by have := yR.1 15 _ _ rfl; have := yR.1 16 _ _ rfl; have := yR.1 19 _ _ rfl; omega) (by have := yR.1 15 _ _ rfl; have := yR.1 16 _ _ rfl; have := yR.1 19 _ _ rfl; omega)
    have := mz_hi (v5 - v7)
    refine mv_icmp_eqZ (tgt := 26) (a := (v5 - v7).toInt) (b := 3) d_TrustDeskModel_isWord_21 (by decide) rfl (by decide) (fun b9 => ?_) (fun b9 => ?_)
    · refine mv_iconst (v := 0) d_TrustDeskModel_isWord_26 (by decide) ?_
      refine mv_istore_n (lv' := [(2, .int 0), (0, .ref o0), (1, .ref 42)]) d_TrustDeskModel_isWord_27 rfl (by decide) rfl ?_
      refine mv_iload_n d_TrustDeskModel_isWord_28 rfl rfl ?_
      refine mv_aload_n d_TrustDeskModel_isWord_29 rfl rfl ?_
      refine mv_slenK (i := 32) (v := 3) d_TrustDeskModel_isWord_30 lV_TrustDeskModel_214 (by decide) rfl (by decide) (Nat.le_of_ble_eq_true rfl) ?_
      refine mv_icmp_ge_f (tgt := 63) d_TrustDeskModel_isWord_33 (by decide) (by decide) ?_
      refine mv_aload_n d_TrustDeskModel_isWord_36 rfl rfl ?_
      obtain ⟨a11, q10, t_a11⟩ := tm_atR I0 h_o0 (k := 13) rfl
      refine tr_getK q10 d_TrustDeskModel_isWord_37 f_TrustDeskModel_44_13 ?_
      refine mv_aload_n d_TrustDeskModel_isWord_40 rfl rfl ?_
      refine tr_getK (k := 16) q6 d_TrustDeskModel_isWord_41 f_TrustDeskModel_195_13 ?_
      refine mv_iload_n d_TrustDeskModel_isWord_44 rfl rfl ?_
      refine mv_iadd d_TrustDeskModel_isWord_45 ?_
      have b12 : (v7 + 0 : Int32).toInt = (v7.toInt + 0) := mz_add2 rfl (by decide) (by have := yR.1 15 _ _ rfl; have := yR.1 16 _ _ rfl; have := yR.1 19 _ _ rfl; omega) (by have := yR.1 15 _ _ rfl; have := yR.1 16 _ _ rfl; have := yR.1 19 _ _ rfl; omega)
      refine tr_baldR (o := o0) (k := 13) I0 q10 t_a11 (by decide) d_TrustDeskModel_isWord_46 (vp_in_iff.mpr (by have := yR.1 15 _ _ rfl; have := yR.1 16 _ _ rfl; have := yR.1 19 _ _ rfl; omega)) (fun v13 e14 => ?_)
      have := yR.a (k := 13) rfl ((v7 + 0) : Int32).toNatClampNeg
      have h15 : (v7 + 0).toNatClampNeg = (rv M0 o0 16).toNat + 0 := by have := mz_nat9 (i := (v7 + 0)) (by have := yR.1 15 _ _ rfl; have := yR.1 16 _ _ rfl; have := yR.1 19 _ _ rfl; omega); have := yR.1 15 _ _ rfl; have := yR.1 16 _ _ rfl; have := yR.1 19 _ _ rfl; omega
      have : v13.toInt = ra M0 o0 13 ((rv M0 o0 16).toNat + 0) := by rw [e14, h15]
      refine mv_aload_n d_TrustDeskModel_isWord_47 rfl rfl ?_
      refine mv_iload_n d_TrustDeskModel_isWord_48 rfl rfl ?_
      refine mv_schC (i := 32) (v := 101) d_TrustDeskModel_isWord_49 lV_TrustDeskModel_220 (by decide) rfl (by decide) (by decide) (Nat.le_of_ble_eq_true rfl) (by decide) ?_
      have := mz_hi v13
      refine mv_icmp_eqZ (tgt := 57) (a := v13.toInt) (b := 101) d_TrustDeskModel_isWord_52 (by decide) rfl (by decide) (fun b16 => ?_) (fun b16 => ?_)
      · refine mv_iinc (v := 1) (lv' := [(2, .int 1), (0, .ref o0), (1, .ref 42)]) d_TrustDeskModel_isWord_57 rfl (by decide) (by decide) rfl ?_
        refine mv_goto (tgt := 28) d_TrustDeskModel_isWord_60 (by decide) ?_
        refine mv_iload_n d_TrustDeskModel_isWord_28 rfl rfl ?_
        refine mv_aload_n d_TrustDeskModel_isWord_29 rfl rfl ?_
        refine mv_slenK (i := 32) (v := 3) d_TrustDeskModel_isWord_30 lV_TrustDeskModel_214 (by decide) rfl (by decide) (Nat.le_of_ble_eq_true rfl) ?_
        refine mv_icmp_ge_f (tgt := 63) d_TrustDeskModel_isWord_33 (by decide) (by decide) ?_
        refine mv_aload_n d_TrustDeskModel_isWord_36 rfl rfl ?_
        refine tr_getK (k := 13) q10 d_TrustDeskModel_isWord_37 f_TrustDeskModel_44_13 ?_
        refine mv_aload_n d_TrustDeskModel_isWord_40 rfl rfl ?_
        refine tr_getK (k := 16) q6 d_TrustDeskModel_isWord_41 f_TrustDeskModel_195_13 ?_
        refine mv_iload_n d_TrustDeskModel_isWord_44 rfl rfl ?_
        refine mv_iadd d_TrustDeskModel_isWord_45 ?_
        have b17 : (v7 + 1 : Int32).toInt = (v7.toInt + 1) := mz_add2 rfl (by decide) (by have := yR.1 15 _ _ rfl; have := yR.1 16 _ _ rfl; have := yR.1 19 _ _ rfl; omega) (by have := yR.1 15 _ _ rfl; have := yR.1 16 _ _ rfl; have := yR.1 19 _ _ rfl; omega)
        refine tr_baldR (o := o0) (k := 13) I0 q10 t_a11 (by decide) d_TrustDeskModel_isWord_46 (vp_in_iff.mpr (by have := yR.1 15 _ _ rfl; have := yR.1 16 _ _ rfl; have := yR.1 19 _ _ rfl; omega)) (fun v18 e19 => ?_)
        have := yR.a (k := 13) rfl ((v7 + 1) : Int32).toNatClampNeg
        have h20 : (v7 + 1).toNatClampNeg = (rv M0 o0 16).toNat + 1 := by have := mz_nat9 (i := (v7 + 1)) (by have := yR.1 15 _ _ rfl; have := yR.1 16 _ _ rfl; have := yR.1 19 _ _ rfl; omega); have := yR.1 15 _ _ rfl; have := yR.1 16 _ _ rfl; have := yR.1 19 _ _ rfl; omega
        have : v18.toInt = ra M0 o0 13 ((rv M0 o0 16).toNat + 1) := by rw [e19, h20]
        refine mv_aload_n d_TrustDeskModel_isWord_47 rfl rfl ?_
        refine mv_iload_n d_TrustDeskModel_isWord_48 rfl rfl ?_
        refine mv_schC (i := 32) (v := 110) d_TrustDeskModel_isWord_49 lV_TrustDeskModel_220 (by decide) rfl (by decide) (by decide) (Nat.le_of_ble_eq_true rfl) (by decide) ?_
        have := mz_hi v18
        refine mv_icmp_eqZ (tgt := 57) (a := v18.toInt) (b := 110) d_TrustDeskModel_isWord_52 (by decide) rfl (by decide) (fun b21 => ?_) (fun b21 => ?_)
        · refine mv_iinc (v := 2) (lv' := [(2, .int 2), (0, .ref o0), (1, .ref 42)]) d_TrustDeskModel_isWord_57 rfl (by decide) (by decide) rfl ?_
          refine mv_goto (tgt := 28) d_TrustDeskModel_isWord_60 (by decide) ?_
          refine mv_iload_n d_TrustDeskModel_isWord_28 rfl rfl ?_
          refine mv_aload_n d_TrustDeskModel_isWord_29 rfl rfl ?_
          refine mv_slenK (i := 32) (v := 3) d_TrustDeskModel_isWord_30 lV_TrustDeskModel_214 (by decide) rfl (by decide) (Nat.le_of_ble_eq_true rfl) ?_
          refine mv_icmp_ge_f (tgt := 63) d_TrustDeskModel_isWord_33 (by decide) (by decide) ?_
          refine mv_aload_n d_TrustDeskModel_isWord_36 rfl rfl ?_
          refine tr_getK (k := 13) q10 d_TrustDeskModel_isWord_37 f_TrustDeskModel_44_13 ?_
          refine mv_aload_n d_TrustDeskModel_isWord_40 rfl rfl ?_
          refine tr_getK (k := 16) q6 d_TrustDeskModel_isWord_41 f_TrustDeskModel_195_13 ?_
          refine mv_iload_n d_TrustDeskModel_isWord_44 rfl rfl ?_
          refine mv_iadd d_TrustDeskModel_isWord_45 ?_
          have b22 : (v7 + 2 : Int32).toInt = (v7.toInt + 2) := mz_add2 rfl (by decide) (by have := yR.1 15 _ _ rfl; have := yR.1 16 _ _ rfl; have := yR.1 19 _ _ rfl; omega) (by have := yR.1 15 _ _ rfl; have := yR.1 16 _ _ rfl; have := yR.1 19 _ _ rfl; omega)
          refine tr_baldR (o := o0) (k := 13) I0 q10 t_a11 (by decide) d_TrustDeskModel_isWord_46 (vp_in_iff.mpr (by have := yR.1 15 _ _ rfl; have := yR.1 16 _ _ rfl; have := yR.1 19 _ _ rfl; omega)) (fun v23 e24 => ?_)
          have := yR.a (k := 13) rfl ((v7 + 2) : Int32).toNatClampNeg
          have h25 : (v7 + 2).toNatClampNeg = (rv M0 o0 16).toNat + 2 := by have := mz_nat9 (i := (v7 + 2)) (by have := yR.1 15 _ _ rfl; have := yR.1 16 _ _ rfl; have := yR.1 19 _ _ rfl; omega); have := yR.1 15 _ _ rfl; have := yR.1 16 _ _ rfl; have := yR.1 19 _ _ rfl; omega
          have : v23.toInt = ra M0 o0 13 ((rv M0 o0 16).toNat + 2) := by rw [e24, h25]
          refine mv_aload_n d_TrustDeskModel_isWord_47 rfl rfl ?_
          refine mv_iload_n d_TrustDeskModel_isWord_48 rfl rfl ?_
          refine mv_schC (i := 32) (v := 100) d_TrustDeskModel_isWord_49 lV_TrustDeskModel_220 (by decide) rfl (by decide) (by decide) (Nat.le_of_ble_eq_true rfl) (by decide) ?_
          have := mz_hi v23
          refine mv_icmp_eqZ (tgt := 57) (a := v23.toInt) (b := 100) d_TrustDeskModel_isWord_52 (by decide) rfl (by decide) (fun b26 => ?_) (fun b26 => ?_)
          · refine mv_iinc (v := 3) (lv' := [(2, .int 3), (0, .ref o0), (1, .ref 42)]) d_TrustDeskModel_isWord_57 rfl (by decide) (by decide) rfl ?_
            refine mv_goto (tgt := 28) d_TrustDeskModel_isWord_60 (by decide) ?_
            refine mv_iload_n d_TrustDeskModel_isWord_28 rfl rfl ?_
            refine mv_aload_n d_TrustDeskModel_isWord_29 rfl rfl ?_
            refine mv_slenK (i := 32) (v := 3) d_TrustDeskModel_isWord_30 lV_TrustDeskModel_214 (by decide) rfl (by decide) (Nat.le_of_ble_eq_true rfl) ?_
            refine mv_icmp_ge_t (tgt := 63) d_TrustDeskModel_isWord_33 (by decide) (by decide) ?_
            refine mv_iconst (v := 1) d_TrustDeskModel_isWord_63 (by decide) ?_
            exact mv_iret d_TrustDeskModel_isWord_64 rfl (by decide) ⟨_, I0, _, rfl, by decide, by decide, yR, (fun _ => by have := yR.1 15 _ _ rfl; have := yR.1 16 _ _ rfl; have := yR.1 19 _ _ rfl; omega), (fun _ => ⟨by have := yR.1 15 _ _ rfl; have := yR.1 16 _ _ rfl; have := yR.1 19 _ _ rfl; omega, by have := yR.1 15 _ _ rfl; have := yR.1 16 _ _ rfl; have := yR.1 19 _ _ rfl; omega, by have := yR.1 15 _ _ rfl; have := yR.1 16 _ _ rfl; have := yR.1 19 _ _ rfl; omega, by have := yR.1 15 _ _ rfl; have := yR.1 16 _ _ rfl; have := yR.1 19 _ _ rfl; omega, by have := yR.1 15 _ _ rfl; have := yR.1 16 _ _ rfl; have := yR.1 19 _ _ rfl; omega⟩), (fun h => absurd h (by decide))⟩
          · refine mv_iconst (v := 0) d_TrustDeskModel_isWord_55 (by decide) ?_
            exact mv_iret d_TrustDeskModel_isWord_56 rfl (by decide) ⟨_, I0, _, rfl, by decide, by decide, yR, (fun h => absurd h (by decide)), (fun h => absurd h (by decide)), (fun _ h => by obtain ⟨h1, h2, h3, h4, h5⟩ := h; have := yR.1 15 _ _ rfl; have := yR.1 16 _ _ rfl; have := yR.1 19 _ _ rfl; omega)⟩
        · refine mv_iconst (v := 0) d_TrustDeskModel_isWord_55 (by decide) ?_
          exact mv_iret d_TrustDeskModel_isWord_56 rfl (by decide) ⟨_, I0, _, rfl, by decide, by decide, yR, (fun h => absurd h (by decide)), (fun h => absurd h (by decide)), (fun _ h => by obtain ⟨h1, h2, h3, h4, h5⟩ := h; have := yR.1 15 _ _ rfl; have := yR.1 16 _ _ rfl; have := yR.1 19 _ _ rfl; omega)⟩
      · refine mv_iconst (v := 0) d_TrustDeskModel_isWord_55 (by decide) ?_
        exact mv_iret d_TrustDeskModel_isWord_56 rfl (by decide) ⟨_, I0, _, rfl, by decide, by decide, yR, (fun h => absurd h (by decide)), (fun h => absurd h (by decide)), (fun _ h => by obtain ⟨h1, h2, h3, h4, h5⟩ := h; have := yR.1 15 _ _ rfl; have := yR.1 16 _ _ rfl; have := yR.1 19 _ _ rfl; omega)⟩
    · refine mv_iconst (v := 0) d_TrustDeskModel_isWord_24 (by decide) ?_
      exact mv_iret d_TrustDeskModel_isWord_25 rfl (by decide) ⟨_, I0, _, rfl, by decide, by decide, yR, (fun h => absurd h (by decide)), (fun h => absurd h (by decide)), (fun _ h => by obtain ⟨h1, h2, h3, h4, h5⟩ := h; have := yR.1 15 _ _ rfl; have := yR.1 16 _ _ rfl; have := yR.1 19 _ _ rfl; omega)⟩
theorem d_TrustDeskModel_readClause_7 : decode kY_TrustDeskModel_readClause.2.1 7 = .ok (.istore_n 1, 1) := by decide +kernel
theorem d_TrustDeskModel_readClause_8 : decode kY_TrustDeskModel_readClause.2.1 8 = .ok (.iload_n 1, 1) := by decide +kernel
theorem d_TrustDeskModel_readClause_9 : decode kY_TrustDeskModel_readClause.2.1 9 = .ok (.ifCond .ne 31, 3) := by decide +kernel
theorem d_TrustDeskModel_readClause_40 : decode kY_TrustDeskModel_readClause.2.1 40 = .ok (.aload_n 0, 1) := by decide +kernel
theorem d_TrustDeskModel_readClause_41 : decode kY_TrustDeskModel_readClause.2.1 41 = .ok (.getfield 23, 3) := by decide +kernel
theorem d_TrustDeskModel_readClause_44 : decode kY_TrustDeskModel_readClause.2.1 44 = .ok (.bipush 44, 2) := by decide +kernel
theorem d_TrustDeskModel_readClause_46 : decode kY_TrustDeskModel_readClause.2.1 46 = .ok (.iaload, 1) := by decide +kernel
theorem d_TrustDeskModel_readClause_47 : decode kY_TrustDeskModel_readClause.2.1 47 = .ok (.bipush 12, 2) := by decide +kernel
theorem d_TrustDeskModel_readClause_49 : decode kY_TrustDeskModel_readClause.2.1 49 = .ok (.if_icmp .eq 16, 3) := by decide +kernel
theorem d_TrustDeskModel_readClause_65 : decode kY_TrustDeskModel_readClause.2.1 65 = .ok (.aload_n 0, 1) := by decide +kernel
theorem d_TrustDeskModel_readClause_66 : decode kY_TrustDeskModel_readClause.2.1 66 = .ok (.iconst 4, 1) := by decide +kernel
theorem d_TrustDeskModel_readClause_67 : decode kY_TrustDeskModel_readClause.2.1 67 = .ok (.invokevirtual 240, 3) := by decide +kernel
theorem d_TrustDeskModel_readClause_70 : decode kY_TrustDeskModel_readClause.2.1 70 = .ok (.aload_n 0, 1) := by decide +kernel
theorem d_TrustDeskModel_readClause_71 : decode kY_TrustDeskModel_readClause.2.1 71 = .ok (.invokevirtual 230, 3) := by decide +kernel
theorem d_TrustDeskModel_readClause_74 : decode kY_TrustDeskModel_readClause.2.1 74 = .ok (.ifCond .ne 4, 3) := by decide +kernel
theorem d_TrustDeskModel_readClause_77 : decode kY_TrustDeskModel_readClause.2.1 77 = .ok (.return_, 1) := by decide +kernel
theorem d_TrustDeskModel_readClause_52 : decode kY_TrustDeskModel_readClause.2.1 52 = .ok (.iload_n 1, 1) := by decide +kernel
theorem d_TrustDeskModel_readClause_53 : decode kY_TrustDeskModel_readClause.2.1 53 = .ok (.ifCond .eq 17, 3) := by decide +kernel
theorem d_TrustDeskModel_readClause_56 : decode kY_TrustDeskModel_readClause.2.1 56 = .ok (.aload_n 0, 1) := by decide +kernel
theorem d_TrustDeskModel_readClause_57 : decode kY_TrustDeskModel_readClause.2.1 57 = .ok (.getfield 321, 3) := by decide +kernel
theorem d_TrustDeskModel_readClause_60 : decode kY_TrustDeskModel_readClause.2.1 60 = .ok (.bipush 6, 2) := by decide +kernel
theorem d_TrustDeskModel_readClause_62 : decode kY_TrustDeskModel_readClause.2.1 62 = .ok (.if_icmp .ne 8, 3) := by decide +kernel
theorem d_TrustDeskModel_readClause_78 : decode kY_TrustDeskModel_readClause.2.1 78 = .ok (.aload_n 0, 1) := by decide +kernel
theorem d_TrustDeskModel_readClause_79 : decode kY_TrustDeskModel_readClause.2.1 79 = .ok (.ldc_w 338, 3) := by decide +kernel
theorem d_TrustDeskModel_readClause_82 : decode kY_TrustDeskModel_readClause.2.1 82 = .ok (.invokevirtual 244, 3) := by decide +kernel
def w_TrustDeskModel_isWord_s1_43_x : List Nat := []
theorem tc_TrustDeskModel_isWord_s1_43_x {g : mj_G} {l : Launch} {d : Nat} {T0 : tm_H} {M0 : mj_M} {n0 x9 : Nat} {o0 : Nat} (h_o0 : T0 o0 = some (0, 13, 0)) (yR : rI M0 o0) (I0 : tm_I tm_FT (tm_in w_TrustDeskModel_isWord_s1_43_x) x9 T0 M0 n0 T0 M0 n0) : mj_Met g l kY_TrustDeskModel_isWord (d + 4) [.ref o0, .ref 43] M0 n0 0 0 (tm_Q tm_FT (tm_in w_TrustDeskModel_isWord_s1_43_x) x9 T0 M0 n0 (fun r _ M => ∃ v : Int32, r = some (.int v) ∧ 0 ≤ v.toInt ∧ v.toInt ≤ 1 ∧ rI M o0 ∧ (v.toInt = 1 → rv M0 o0 17 = 3))) := by
  refine mj_enter (by decide) (Nat.le_of_ble_eq_true rfl) ?_
  refine mv_aload_n d_TrustDeskModel_isWord_0 rfl rfl ?_
  obtain ⟨v2, q1⟩ := tm_atI I0 h_o0 (k := 17) rfl
  refine tr_getK q1 d_TrustDeskModel_isWord_1 f_TrustDeskModel_198_13 ?_
  have := tm_rv q1
  refine mv_iconst (v := 3) d_TrustDeskModel_isWord_4 (by decide) ?_
  have := mz_hi v2
  refine mv_icmp_neZ (tgt := 24) (a := v2.toInt) (b := 3) d_TrustDeskModel_isWord_5 (by decide) rfl (by decide) (fun b3 => ?_) (fun b3 => ?_)
  · refine mv_iconst (v := 0) d_TrustDeskModel_isWord_24 (by decide) ?_
    exact mv_iret d_TrustDeskModel_isWord_25 rfl (by decide) ⟨_, I0, _, rfl, by decide, by decide, yR, (fun h => absurd h (by decide))⟩
  · refine mv_aload_n d_TrustDeskModel_isWord_8 rfl rfl ?_
    obtain ⟨v5, q4⟩ := tm_atI I0 h_o0 (k := 15) rfl
    refine tr_getK q4 d_TrustDeskModel_isWord_9 f_TrustDeskModel_192_13 ?_
    have := yR.f (k := 15) q4 rfl
    have := tm_rv q4
    refine mv_aload_n d_TrustDeskModel_isWord_12 rfl rfl ?_
    obtain ⟨v7, q6⟩ := tm_atI I0 h_o0 (k := 16) rfl
    refine tr_getK q6 d_TrustDeskModel_isWord_13 f_TrustDeskModel_195_13 ?_
    have := yR.f (k := 16) q6 rfl
    have := tm_rv q6
    refine mv_isub d_TrustDeskModel_isWord_16 ?_
    refine mv_aload_n d_TrustDeskModel_isWord_17 rfl rfl ?_
    refine mv_slenK (i := 33) (v := 4) d_TrustDeskModel_isWord_18 lV_TrustDeskModel_214 (by decide) rfl (by decide) (Nat.le_of_ble_eq_true rfl) ?_
    have b8 : (v5 - v7 : Int32).toInt = (v5.toInt - v7.toInt) := mz_sub2 rfl rfl (by have := yR.1 15 _ _ rfl; have := yR.1 16 _ _ rfl; have := yR.1 19 _ _ rfl; omega) (by have := yR.1 15 _ _ rfl; have := yR.1 16 _ _ rfl; have := yR.1 19 _ _ rfl; omega)
    have := mz_hi (v5 - v7)
    refine mv_icmp_eqZ (tgt := 26) (a := (v5 - v7).toInt) (b := 4) d_TrustDeskModel_isWord_21 (by decide) rfl (by decide) (fun b9 => ?_) (fun b9 => ?_)
    · refine mv_iconst (v := 0) d_TrustDeskModel_isWord_26 (by decide) ?_
      refine mv_istore_n (lv' := [(2, .int 0), (0, .ref o0), (1, .ref 43)]) d_TrustDeskModel_isWord_27 rfl (by decide) rfl ?_
      have L28_10 : ∀ (k : Nat) (i2_10 : Int32) (T_10 : tm_H) (M_10 : mj_M) (n_10 : Nat), tm_I tm_FT (tm_in w_TrustDeskModel_isWord_s1_43_x) x9 T0 M0 n0 T_10 M_10 n_10 → T_10 o0 = some (0, 13, 0) → 0 ≤ i2_10.toInt → rv M_10 o0 15 = rv M0 o0 15 → rv M_10 o0 16 = rv M0 o0 16 → i2_10.toInt ≤ 2147483646 → (rI M_10 o0) → 2147483647 - i2_10.toInt < (k : Int) → mj_V g l kY_TrustDeskModel_isWord (d + 4) 28 [(2, .int i2_10), (0, .ref o0), (1, .ref 43)] [] M_10 n_10 0 0 (tm_Q tm_FT (tm_in w_TrustDeskModel_isWord_s1_43_x) x9 T0 M0 n0 (fun r _ M => ∃ v : Int32, r = some (.int v) ∧ 0 ≤ v.toInt ∧ v.toInt ≤ 1 ∧ rI M o0 ∧ (v.toInt = 1 → rv M0 o0 17 = 3))) := by
        intro k10
        induction k10 with
        | zero =>
          intro i2_10 T_10 M_10 n_10 I_10 h_q0_10 iv0_10 iv1_10 iv2_10 iv3_10 kKR_10 hk10
          have := mz_hi i2_10
          have := kKR_10.1 15 _ _ rfl
          have := kKR_10.1 16 _ _ rfl
          have := kKR_10.1 19 _ _ rfl
          omega
        | succ k10 ih10 =>
          intro i2_10 T_10 M_10 n_10 I_10 h_q0_10 iv0_10 iv1_10 iv2_10 iv3_10 kKR_10 hk10
          refine mv_iload_n d_TrustDeskModel_isWord_28 rfl rfl ?_
          refine mv_aload_n d_TrustDeskModel_isWord_29 rfl rfl ?_
          refine mv_slenK (i := 33) (v := 4) d_TrustDeskModel_isWord_30 lV_TrustDeskModel_214 (by decide) rfl (by decide) (Nat.le_of_ble_eq_true rfl) ?_
          have := mz_hi i2_10
          refine mv_icmp_geZ (tgt := 63) (a := i2_10.toInt) (b := 4) d_TrustDeskModel_isWord_33 (by decide) rfl (by decide) (fun b11 => ?_) (fun b11 => ?_)
          · refine mv_iconst (v := 1) d_TrustDeskModel_isWord_63 (by decide) ?_
            exact mv_iret d_TrustDeskModel_isWord_64 rfl (by decide) ⟨_, I_10, _, rfl, by decide, by decide, kKR_10, (fun _ => by omega)⟩
          · refine mv_aload_n d_TrustDeskModel_isWord_36 rfl rfl ?_
            obtain ⟨a13, q12, t_a13⟩ := tm_atR I_10 h_q0_10 (k := 13) rfl
            refine tr_getK q12 d_TrustDeskModel_isWord_37 f_TrustDeskModel_44_13 ?_
            refine mv_aload_n d_TrustDeskModel_isWord_40 rfl rfl ?_
            obtain ⟨v15, q14⟩ := tm_atI I_10 h_q0_10 (k := 16) rfl
            refine tr_getK q14 d_TrustDeskModel_isWord_41 f_TrustDeskModel_195_13 ?_
            have := kKR_10.f (k := 16) q14 rfl
            have := tm_rv q14
            refine mv_iload_n d_TrustDeskModel_isWord_44 rfl rfl ?_
            refine mv_iadd d_TrustDeskModel_isWord_45 ?_
            have b16 : (v15 + i2_10 : Int32).toInt = (v15.toInt + i2_10.toInt) := mz_add2 rfl rfl (by have := kKR_10.1 15 _ _ rfl; have := kKR_10.1 16 _ _ rfl; have := kKR_10.1 19 _ _ rfl; omega) (by have := kKR_10.1 15 _ _ rfl; have := kKR_10.1 16 _ _ rfl; have := kKR_10.1 19 _ _ rfl; omega)
            refine tr_baldR (o := o0) (k := 13) I_10 q12 t_a13 (by decide) d_TrustDeskModel_isWord_46 (vp_in_iff.mpr (by have := kKR_10.1 15 _ _ rfl; have := kKR_10.1 16 _ _ rfl; have := kKR_10.1 19 _ _ rfl; omega)) (fun v17 e18 => ?_)
            have := kKR_10.a (k := 13) rfl ((v15 + i2_10) : Int32).toNatClampNeg
            refine mv_aload_n d_TrustDeskModel_isWord_47 rfl rfl ?_
            refine mv_iload_n d_TrustDeskModel_isWord_48 rfl rfl ?_
            refine mv_schN (i := 33) (N := 4) d_TrustDeskModel_isWord_49 lV_TrustDeskModel_220 (by decide) rfl rfl (by omega) (by omega) (Nat.le_of_ble_eq_true rfl) (fun v19 => ?_)
            have := mz_hi v17
            have := mz_hi v19
            refine mv_icmp_eqZ (tgt := 57) (a := v17.toInt) (b := v19.toInt) d_TrustDeskModel_isWord_52 (by decide) rfl rfl (fun b20 => ?_) (fun b20 => ?_)
            · refine mv_iinc (v := (i2_10 + 1)) (lv' := [(2, .int (i2_10 + 1)), (0, .ref o0), (1, .ref 43)]) d_TrustDeskModel_isWord_57 rfl rfl (by decide) rfl ?_
              refine mv_goto (tgt := 28) d_TrustDeskModel_isWord_60 (by decide) ?_
              have b21 : (i2_10 + 1).toInt = i2_10.toInt + 1 := mz_addn 1 1 (by decide) (by have := mz_lo i2_10; omega) (by have := mz_hi i2_10; omega)
              exact (ih10 (i2_10 + 1) T_10 M_10 n_10 I_10 h_q0_10 (by have := kKR_10.1 15 _ _ rfl; have := kKR_10.1 16 _ _ rfl; have := kKR_10.1 19 _ _ rfl; first | omega | decide | exact fun h9 => absurd (by decide) h9) (by have := kKR_10.1 15 _ _ rfl; have := kKR_10.1 16 _ _ rfl; have := kKR_10.1 19 _ _ rfl; first | omega | decide | exact fun h9 => absurd (by decide) h9) (by have := kKR_10.1 15 _ _ rfl; have := kKR_10.1 16 _ _ rfl; have := kKR_10.1 19 _ _ rfl; first | omega | decide | exact fun h9 => absurd (by decide) h9) (by have := kKR_10.1 15 _ _ rfl; have := kKR_10.1 16 _ _ rfl; have := kKR_10.1 19 _ _ rfl; first | omega | decide | exact fun h9 => absurd (by decide) h9) kKR_10 (by have := kKR_10.1 15 _ _ rfl; have := kKR_10.1 16 _ _ rfl; have := kKR_10.1 19 _ _ rfl; omega))
            · refine mv_iconst (v := 0) d_TrustDeskModel_isWord_55 (by decide) ?_
              exact mv_iret d_TrustDeskModel_isWord_56 rfl (by decide) ⟨_, I_10, _, rfl, by decide, by decide, kKR_10, (fun h => absurd h (by decide))⟩
      exact mv_less (Nat.zero_le _) (Nat.zero_le _) (L28_10 4294967296 0 T0 M0 n0 I0 h_o0 (by have := yR.1 15 _ _ rfl; have := yR.1 16 _ _ rfl; have := yR.1 19 _ _ rfl; first | omega | decide | exact fun h9 => absurd (by decide) h9) (by have := yR.1 15 _ _ rfl; have := yR.1 16 _ _ rfl; have := yR.1 19 _ _ rfl; first | omega | decide | exact fun h9 => absurd (by decide) h9) (by have := yR.1 15 _ _ rfl; have := yR.1 16 _ _ rfl; have := yR.1 19 _ _ rfl; first | omega | decide | exact fun h9 => absurd (by decide) h9) (by have := yR.1 15 _ _ rfl; have := yR.1 16 _ _ rfl; have := yR.1 19 _ _ rfl; first | omega | decide | exact fun h9 => absurd (by decide) h9) yR (by show (2147483647 - (0 : Int) : Int) < _; decide))
    · refine mv_iconst (v := 0) d_TrustDeskModel_isWord_24 (by decide) ?_
      exact mv_iret d_TrustDeskModel_isWord_25 rfl (by decide) ⟨_, I0, _, rfl, by decide, by decide, yR, (fun h => absurd h (by decide))⟩
theorem d_TrustDeskModel_readClause_85 : decode kY_TrustDeskModel_readClause.2.1 85 = .ok (.istore_n 2, 1) := by decide +kernel
theorem d_TrustDeskModel_readClause_86 : decode kY_TrustDeskModel_readClause.2.1 86 = .ok (.aload_n 0, 1) := by decide +kernel
theorem d_TrustDeskModel_readClause_87 : decode kY_TrustDeskModel_readClause.2.1 87 = .ok (.iload_n 1, 1) := by decide +kernel
theorem d_TrustDeskModel_readClause_88 : decode kY_TrustDeskModel_readClause.2.1 88 = .ok (.ifCond .eq 8, 3) := by decide +kernel
theorem d_TrustDeskModel_readClause_91 : decode kY_TrustDeskModel_readClause.2.1 91 = .ok (.bipush 8, 2) := by decide +kernel
theorem d_TrustDeskModel_readClause_93 : decode kY_TrustDeskModel_readClause.2.1 93 = .ok (.goto 14, 3) := by decide +kernel
theorem d_TrustDeskModel_readClause_107 : decode kY_TrustDeskModel_readClause.2.1 107 = .ok (.invokevirtual 342, 3) := by decide +kernel
theorem lV_TrustDeskModel_342 : mj_lV "TrustDeskModel" 342 kY_TrustDeskModel_begin 1 := ⟨⟨(mj_in1 (List.mem_of_getElem? (i := 1691) (by decide +kernel)) rfl), (mj_in1 (List.mem_of_getElem? (i := 10) (by decide +kernel)) rfl), (mj_in1 (List.mem_of_getElem? (i := 1694) (by decide +kernel)) rfl), by decide, rfl, by decide⟩, (mj_in1 (List.mem_of_getElem? (i := 1693) (by decide +kernel)) rfl), (mj_in (List.mem_append_left _ (List.mem_of_getElem? (i := 88) (by decide +kernel))) rfl)⟩
theorem d_TrustDeskModel_readClause_110 : decode kY_TrustDeskModel_readClause.2.1 110 = .ok (.istore_n 3, 1) := by decide +kernel
theorem d_TrustDeskModel_readClause_111 : decode kY_TrustDeskModel_readClause.2.1 111 = .ok (.iload_n 1, 1) := by decide +kernel
theorem d_TrustDeskModel_readClause_112 : decode kY_TrustDeskModel_readClause.2.1 112 = .ok (.ifCond .eq 11, 3) := by decide +kernel
theorem d_TrustDeskModel_readClause_115 : decode kY_TrustDeskModel_readClause.2.1 115 = .ok (.aload_n 0, 1) := by decide +kernel
theorem d_TrustDeskModel_readClause_116 : decode kY_TrustDeskModel_readClause.2.1 116 = .ok (.iload_n 3, 1) := by decide +kernel
theorem d_TrustDeskModel_readClause_117 : decode kY_TrustDeskModel_readClause.2.1 117 = .ok (.invokevirtual 345, 3) := by decide +kernel
theorem lV_TrustDeskModel_345 : mj_lV "TrustDeskModel" 345 kY_TrustDeskModel_readEnd 1 := ⟨⟨(mj_in1 (List.mem_of_getElem? (i := 1802) (by decide +kernel)) rfl), (mj_in1 (List.mem_of_getElem? (i := 10) (by decide +kernel)) rfl), (mj_in1 (List.mem_of_getElem? (i := 1805) (by decide +kernel)) rfl), by decide, rfl, by decide⟩, (mj_in1 (List.mem_of_getElem? (i := 1804) (by decide +kernel)) rfl), (mj_in (List.mem_append_left _ (List.mem_of_getElem? (i := 107) (by decide +kernel))) rfl)⟩
theorem d_TrustDeskModel_readClause_120 : decode kY_TrustDeskModel_readClause.2.1 120 = .ok (.goto 45, 3) := by decide +kernel
theorem d_TrustDeskModel_readClause_165 : decode kY_TrustDeskModel_readClause.2.1 165 = .ok (.aload_n 0, 1) := by decide +kernel
theorem d_TrustDeskModel_readClause_166 : decode kY_TrustDeskModel_readClause.2.1 166 = .ok (.bipush 59, 2) := by decide +kernel
theorem d_TrustDeskModel_readClause_168 : decode kY_TrustDeskModel_readClause.2.1 168 = .ok (.invokevirtual 291, 3) := by decide +kernel
theorem d_TrustDeskModel_readClause_171 : decode kY_TrustDeskModel_readClause.2.1 171 = .ok (.aload_n 0, 1) := by decide +kernel
theorem d_TrustDeskModel_readClause_172 : decode kY_TrustDeskModel_readClause.2.1 172 = .ok (.getfield 41, 3) := by decide +kernel
theorem f_TrustDeskModel_41_13 : mj_fl "TrustDeskModel" 41 13 12 := ⟨kR_TrustDeskModel, kF_TrustDeskModel, 72, "TrustDeskModel", rfl, kg_13, by decide, (mj_in1 (List.mem_of_getElem? (i := 1398) (by decide +kernel)) rfl), Or.inl rfl⟩
theorem d_TrustDeskModel_readClause_175 : decode kY_TrustDeskModel_readClause.2.1 175 = .ok (.iload_n 3, 1) := by decide +kernel
theorem d_TrustDeskModel_readClause_176 : decode kY_TrustDeskModel_readClause.2.1 176 = .ok (.aload_n 0, 1) := by decide +kernel
theorem d_TrustDeskModel_readClause_177 : decode kY_TrustDeskModel_readClause.2.1 177 = .ok (.getfield 20, 3) := by decide +kernel
theorem d_TrustDeskModel_readClause_180 : decode kY_TrustDeskModel_readClause.2.1 180 = .ok (.bipush 44, 2) := by decide +kernel
theorem d_TrustDeskModel_readClause_182 : decode kY_TrustDeskModel_readClause.2.1 182 = .ok (.iaload, 1) := by decide +kernel
theorem d_TrustDeskModel_readClause_183 : decode kY_TrustDeskModel_readClause.2.1 183 = .ok (.iastore, 1) := by decide +kernel
theorem d_TrustDeskModel_readClause_184 : decode kY_TrustDeskModel_readClause.2.1 184 = .ok (.return_, 1) := by decide +kernel
theorem d_TrustDeskModel_readClause_12 : decode kY_TrustDeskModel_readClause.2.1 12 = .ok (.aload_n 0, 1) := by decide +kernel
theorem d_TrustDeskModel_readClause_13 : decode kY_TrustDeskModel_readClause.2.1 13 = .ok (.ldc_w 338, 3) := by decide +kernel
theorem d_TrustDeskModel_readClause_16 : decode kY_TrustDeskModel_readClause.2.1 16 = .ok (.invokevirtual 244, 3) := by decide +kernel
theorem d_TrustDeskModel_readClause_19 : decode kY_TrustDeskModel_readClause.2.1 19 = .ok (.ifCond .ne 21, 3) := by decide +kernel
theorem d_TrustDeskModel_readClause_96 : decode kY_TrustDeskModel_readClause.2.1 96 = .ok (.iload_n 2, 1) := by decide +kernel
theorem d_TrustDeskModel_readClause_97 : decode kY_TrustDeskModel_readClause.2.1 97 = .ok (.ifCond .eq 8, 3) := by decide +kernel
theorem d_TrustDeskModel_readClause_105 : decode kY_TrustDeskModel_readClause.2.1 105 = .ok (.bipush 9, 2) := by decide +kernel
theorem d_TrustDeskModel_readClause_123 : decode kY_TrustDeskModel_readClause.2.1 123 = .ok (.iload_n 2, 1) := by decide +kernel
theorem d_TrustDeskModel_readClause_124 : decode kY_TrustDeskModel_readClause.2.1 124 = .ok (.ifCond .eq 11, 3) := by decide +kernel
theorem d_TrustDeskModel_readClause_135 : decode kY_TrustDeskModel_readClause.2.1 135 = .ok (.aload_n 0, 1) := by decide +kernel
theorem d_TrustDeskModel_readClause_136 : decode kY_TrustDeskModel_readClause.2.1 136 = .ok (.getfield 29, 3) := by decide +kernel
theorem d_TrustDeskModel_readClause_139 : decode kY_TrustDeskModel_readClause.2.1 139 = .ok (.iload_n 3, 1) := by decide +kernel
theorem d_TrustDeskModel_readClause_140 : decode kY_TrustDeskModel_readClause.2.1 140 = .ok (.aload_n 0, 1) := by decide +kernel
theorem d_TrustDeskModel_readClause_141 : decode kY_TrustDeskModel_readClause.2.1 141 = .ok (.iconst 1, 1) := by decide +kernel
theorem d_TrustDeskModel_readClause_142 : decode kY_TrustDeskModel_readClause.2.1 142 = .ok (.bipush 7, 2) := by decide +kernel
theorem d_TrustDeskModel_readClause_144 : decode kY_TrustDeskModel_readClause.2.1 144 = .ok (.invokevirtual 317, 3) := by decide +kernel
theorem d_TrustDeskModel_readClause_147 : decode kY_TrustDeskModel_readClause.2.1 147 = .ok (.iastore, 1) := by decide +kernel
theorem d_TrustDeskModel_readClause_148 : decode kY_TrustDeskModel_readClause.2.1 148 = .ok (.aload_n 0, 1) := by decide +kernel
theorem d_TrustDeskModel_readClause_149 : decode kY_TrustDeskModel_readClause.2.1 149 = .ok (.getfield 32, 3) := by decide +kernel
theorem d_TrustDeskModel_readClause_152 : decode kY_TrustDeskModel_readClause.2.1 152 = .ok (.iload_n 3, 1) := by decide +kernel
theorem d_TrustDeskModel_readClause_153 : decode kY_TrustDeskModel_readClause.2.1 153 = .ok (.aload_n 0, 1) := by decide +kernel
theorem d_TrustDeskModel_readClause_154 : decode kY_TrustDeskModel_readClause.2.1 154 = .ok (.iconst 1, 1) := by decide +kernel
theorem d_TrustDeskModel_readClause_155 : decode kY_TrustDeskModel_readClause.2.1 155 = .ok (.aload_n 0, 1) := by decide +kernel
theorem d_TrustDeskModel_readClause_156 : decode kY_TrustDeskModel_readClause.2.1 156 = .ok (.getfield 29, 3) := by decide +kernel
theorem d_TrustDeskModel_readClause_159 : decode kY_TrustDeskModel_readClause.2.1 159 = .ok (.iload_n 3, 1) := by decide +kernel
theorem d_TrustDeskModel_readClause_160 : decode kY_TrustDeskModel_readClause.2.1 160 = .ok (.iaload, 1) := by decide +kernel
theorem d_TrustDeskModel_readClause_161 : decode kY_TrustDeskModel_readClause.2.1 161 = .ok (.invokevirtual 317, 3) := by decide +kernel
theorem d_TrustDeskModel_readClause_164 : decode kY_TrustDeskModel_readClause.2.1 164 = .ok (.iastore, 1) := by decide +kernel
theorem d_TrustDeskModel_readClause_100 : decode kY_TrustDeskModel_readClause.2.1 100 = .ok (.bipush 7, 2) := by decide +kernel
theorem d_TrustDeskModel_readClause_102 : decode kY_TrustDeskModel_readClause.2.1 102 = .ok (.goto 5, 3) := by decide +kernel
theorem d_TrustDeskModel_readClause_127 : decode kY_TrustDeskModel_readClause.2.1 127 = .ok (.aload_n 0, 1) := by decide +kernel
theorem d_TrustDeskModel_readClause_128 : decode kY_TrustDeskModel_readClause.2.1 128 = .ok (.iload_n 3, 1) := by decide +kernel
theorem d_TrustDeskModel_readClause_129 : decode kY_TrustDeskModel_readClause.2.1 129 = .ok (.invokevirtual 348, 3) := by decide +kernel
theorem lV_TrustDeskModel_348 : mj_lV "TrustDeskModel" 348 kY_TrustDeskModel_readMarks 1 := ⟨⟨(mj_in1 (List.mem_of_getElem? (i := 1812) (by decide +kernel)) rfl), (mj_in1 (List.mem_of_getElem? (i := 10) (by decide +kernel)) rfl), (mj_in1 (List.mem_of_getElem? (i := 1815) (by decide +kernel)) rfl), by decide, rfl, by decide⟩, (mj_in1 (List.mem_of_getElem? (i := 1814) (by decide +kernel)) rfl), (mj_in (List.mem_append_left _ (List.mem_of_getElem? (i := 109) (by decide +kernel))) rfl)⟩
theorem d_TrustDeskModel_readClause_132 : decode kY_TrustDeskModel_readClause.2.1 132 = .ok (.goto 33, 3) := by decide +kernel
theorem d_TrustDeskModel_readClause_22 : decode kY_TrustDeskModel_readClause.2.1 22 = .ok (.aload_n 0, 1) := by decide +kernel
theorem d_TrustDeskModel_readClause_23 : decode kY_TrustDeskModel_readClause.2.1 23 = .ok (.ldc_w 340, 3) := by decide +kernel
theorem d_TrustDeskModel_readClause_26 : decode kY_TrustDeskModel_readClause.2.1 26 = .ok (.invokevirtual 244, 3) := by decide +kernel
def w_TrustDeskModel_isWord_s1_44_x : List Nat := []
theorem tc_TrustDeskModel_isWord_s1_44_x {g : mj_G} {l : Launch} {d : Nat} {T0 : tm_H} {M0 : mj_M} {n0 x9 : Nat} {o0 : Nat} (h_o0 : T0 o0 = some (0, 13, 0)) (yR : rI M0 o0) (I0 : tm_I tm_FT (tm_in w_TrustDeskModel_isWord_s1_44_x) x9 T0 M0 n0 T0 M0 n0) : mj_Met g l kY_TrustDeskModel_isWord (d + 4) [.ref o0, .ref 44] M0 n0 0 0 (tm_Q tm_FT (tm_in w_TrustDeskModel_isWord_s1_44_x) x9 T0 M0 n0 (fun r _ M => ∃ v : Int32, r = some (.int v) ∧ 0 ≤ v.toInt ∧ v.toInt ≤ 1 ∧ rI M o0 ∧ (v.toInt = 1 → rv M0 o0 17 = 3))) := by
  refine mj_enter (by decide) (Nat.le_of_ble_eq_true rfl) ?_
  refine mv_aload_n d_TrustDeskModel_isWord_0 rfl rfl ?_
  obtain ⟨v2, q1⟩ := tm_atI I0 h_o0 (k := 17) rfl
  refine tr_getK q1 d_TrustDeskModel_isWord_1 f_TrustDeskModel_198_13 ?_
  have := tm_rv q1
  refine mv_iconst (v := 3) d_TrustDeskModel_isWord_4 (by decide) ?_
  have := mz_hi v2
  refine mv_icmp_neZ (tgt := 24) (a := v2.toInt) (b := 3) d_TrustDeskModel_isWord_5 (by decide) rfl (by decide) (fun b3 => ?_) (fun b3 => ?_)
  · refine mv_iconst (v := 0) d_TrustDeskModel_isWord_24 (by decide) ?_
    exact mv_iret d_TrustDeskModel_isWord_25 rfl (by decide) ⟨_, I0, _, rfl, by decide, by decide, yR, (fun h => absurd h (by decide))⟩
  · refine mv_aload_n d_TrustDeskModel_isWord_8 rfl rfl ?_
    obtain ⟨v5, q4⟩ := tm_atI I0 h_o0 (k := 15) rfl
    refine tr_getK q4 d_TrustDeskModel_isWord_9 f_TrustDeskModel_192_13 ?_
    have := yR.f (k := 15) q4 rfl
    have := tm_rv q4
    refine mv_aload_n d_TrustDeskModel_isWord_12 rfl rfl ?_
    obtain ⟨v7, q6⟩ := tm_atI I0 h_o0 (k := 16) rfl
    refine tr_getK q6 d_TrustDeskModel_isWord_13 f_TrustDeskModel_195_13 ?_
    have := yR.f (k := 16) q6 rfl
    have := tm_rv q6
    refine mv_isub d_TrustDeskModel_isWord_16 ?_
    refine mv_aload_n d_TrustDeskModel_isWord_17 rfl rfl ?_
    refine mv_slenK (i := 34) (v := 5) d_TrustDeskModel_isWord_18 lV_TrustDeskModel_214 (by decide) rfl (by decide) (Nat.le_of_ble_eq_true rfl) ?_
    have b8 : (v5 - v7 : Int32).toInt = (v5.toInt - v7.toInt) := mz_sub2 rfl rfl (by have := yR.1 15 _ _ rfl; have := yR.1 16 _ _ rfl; have := yR.1 19 _ _ rfl; omega) (by have := yR.1 15 _ _ rfl; have := yR.1 16 _ _ rfl; have := yR.1 19 _ _ rfl; omega)
    have := mz_hi (v5 - v7)
    refine mv_icmp_eqZ (tgt := 26) (a := (v5 - v7).toInt) (b := 5) d_TrustDeskModel_isWord_21 (by decide) rfl (by decide) (fun b9 => ?_) (fun b9 => ?_)
    · refine mv_iconst (v := 0) d_TrustDeskModel_isWord_26 (by decide) ?_
      refine mv_istore_n (lv' := [(2, .int 0), (0, .ref o0), (1, .ref 44)]) d_TrustDeskModel_isWord_27 rfl (by decide) rfl ?_
      have L28_10 : ∀ (k : Nat) (i2_10 : Int32) (T_10 : tm_H) (M_10 : mj_M) (n_10 : Nat), tm_I tm_FT (tm_in w_TrustDeskModel_isWord_s1_44_x) x9 T0 M0 n0 T_10 M_10 n_10 → T_10 o0 = some (0, 13, 0) → 0 ≤ i2_10.toInt → rv M_10 o0 15 = rv M0 o0 15 → rv M_10 o0 16 = rv M0 o0 16 → i2_10.toInt ≤ 2147483646 → (rI M_10 o0) → 2147483647 - i2_10.toInt < (k : Int) → mj_V g l kY_TrustDeskModel_isWord (d + 4) 28 [(2, .int i2_10), (0, .ref o0), (1, .ref 44)] [] M_10 n_10 0 0 (tm_Q tm_FT (tm_in w_TrustDeskModel_isWord_s1_44_x) x9 T0 M0 n0 (fun r _ M => ∃ v : Int32, r = some (.int v) ∧ 0 ≤ v.toInt ∧ v.toInt ≤ 1 ∧ rI M o0 ∧ (v.toInt = 1 → rv M0 o0 17 = 3))) := by
        intro k10
        induction k10 with
        | zero =>
          intro i2_10 T_10 M_10 n_10 I_10 h_q0_10 iv0_10 iv1_10 iv2_10 iv3_10 kKR_10 hk10
          have := mz_hi i2_10
          have := kKR_10.1 15 _ _ rfl
          have := kKR_10.1 16 _ _ rfl
          have := kKR_10.1 19 _ _ rfl
          omega
        | succ k10 ih10 =>
          intro i2_10 T_10 M_10 n_10 I_10 h_q0_10 iv0_10 iv1_10 iv2_10 iv3_10 kKR_10 hk10
          refine mv_iload_n d_TrustDeskModel_isWord_28 rfl rfl ?_
          refine mv_aload_n d_TrustDeskModel_isWord_29 rfl rfl ?_
          refine mv_slenK (i := 34) (v := 5) d_TrustDeskModel_isWord_30 lV_TrustDeskModel_214 (by decide) rfl (by decide) (Nat.le_of_ble_eq_true rfl) ?_
          have := mz_hi i2_10
          refine mv_icmp_geZ (tgt := 63) (a := i2_10.toInt) (b := 5) d_TrustDeskModel_isWord_33 (by decide) rfl (by decide) (fun b11 => ?_) (fun b11 => ?_)
          · refine mv_iconst (v := 1) d_TrustDeskModel_isWord_63 (by decide) ?_
            exact mv_iret d_TrustDeskModel_isWord_64 rfl (by decide) ⟨_, I_10, _, rfl, by decide, by decide, kKR_10, (fun _ => by omega)⟩
          · refine mv_aload_n d_TrustDeskModel_isWord_36 rfl rfl ?_
            obtain ⟨a13, q12, t_a13⟩ := tm_atR I_10 h_q0_10 (k := 13) rfl
            refine tr_getK q12 d_TrustDeskModel_isWord_37 f_TrustDeskModel_44_13 ?_
            refine mv_aload_n d_TrustDeskModel_isWord_40 rfl rfl ?_
            obtain ⟨v15, q14⟩ := tm_atI I_10 h_q0_10 (k := 16) rfl
            refine tr_getK q14 d_TrustDeskModel_isWord_41 f_TrustDeskModel_195_13 ?_
            have := kKR_10.f (k := 16) q14 rfl
            have := tm_rv q14
            refine mv_iload_n d_TrustDeskModel_isWord_44 rfl rfl ?_
            refine mv_iadd d_TrustDeskModel_isWord_45 ?_
            have b16 : (v15 + i2_10 : Int32).toInt = (v15.toInt + i2_10.toInt) := mz_add2 rfl rfl (by have := kKR_10.1 15 _ _ rfl; have := kKR_10.1 16 _ _ rfl; have := kKR_10.1 19 _ _ rfl; omega) (by have := kKR_10.1 15 _ _ rfl; have := kKR_10.1 16 _ _ rfl; have := kKR_10.1 19 _ _ rfl; omega)
            refine tr_baldR (o := o0) (k := 13) I_10 q12 t_a13 (by decide) d_TrustDeskModel_isWord_46 (vp_in_iff.mpr (by have := kKR_10.1 15 _ _ rfl; have := kKR_10.1 16 _ _ rfl; have := kKR_10.1 19 _ _ rfl; omega)) (fun v17 e18 => ?_)
            have := kKR_10.a (k := 13) rfl ((v15 + i2_10) : Int32).toNatClampNeg
            refine mv_aload_n d_TrustDeskModel_isWord_47 rfl rfl ?_
            refine mv_iload_n d_TrustDeskModel_isWord_48 rfl rfl ?_
            refine mv_schN (i := 34) (N := 5) d_TrustDeskModel_isWord_49 lV_TrustDeskModel_220 (by decide) rfl rfl (by omega) (by omega) (Nat.le_of_ble_eq_true rfl) (fun v19 => ?_)
            have := mz_hi v17
            have := mz_hi v19
            refine mv_icmp_eqZ (tgt := 57) (a := v17.toInt) (b := v19.toInt) d_TrustDeskModel_isWord_52 (by decide) rfl rfl (fun b20 => ?_) (fun b20 => ?_)
            · refine mv_iinc (v := (i2_10 + 1)) (lv' := [(2, .int (i2_10 + 1)), (0, .ref o0), (1, .ref 44)]) d_TrustDeskModel_isWord_57 rfl rfl (by decide) rfl ?_
              refine mv_goto (tgt := 28) d_TrustDeskModel_isWord_60 (by decide) ?_
              have b21 : (i2_10 + 1).toInt = i2_10.toInt + 1 := mz_addn 1 1 (by decide) (by have := mz_lo i2_10; omega) (by have := mz_hi i2_10; omega)
              exact (ih10 (i2_10 + 1) T_10 M_10 n_10 I_10 h_q0_10 (by have := kKR_10.1 15 _ _ rfl; have := kKR_10.1 16 _ _ rfl; have := kKR_10.1 19 _ _ rfl; first | omega | decide | exact fun h9 => absurd (by decide) h9) (by have := kKR_10.1 15 _ _ rfl; have := kKR_10.1 16 _ _ rfl; have := kKR_10.1 19 _ _ rfl; first | omega | decide | exact fun h9 => absurd (by decide) h9) (by have := kKR_10.1 15 _ _ rfl; have := kKR_10.1 16 _ _ rfl; have := kKR_10.1 19 _ _ rfl; first | omega | decide | exact fun h9 => absurd (by decide) h9) (by have := kKR_10.1 15 _ _ rfl; have := kKR_10.1 16 _ _ rfl; have := kKR_10.1 19 _ _ rfl; first | omega | decide | exact fun h9 => absurd (by decide) h9) kKR_10 (by have := kKR_10.1 15 _ _ rfl; have := kKR_10.1 16 _ _ rfl; have := kKR_10.1 19 _ _ rfl; omega))
            · refine mv_iconst (v := 0) d_TrustDeskModel_isWord_55 (by decide) ?_
              exact mv_iret d_TrustDeskModel_isWord_56 rfl (by decide) ⟨_, I_10, _, rfl, by decide, by decide, kKR_10, (fun h => absurd h (by decide))⟩
      exact mv_less (Nat.zero_le _) (Nat.zero_le _) (L28_10 4294967296 0 T0 M0 n0 I0 h_o0 (by have := yR.1 15 _ _ rfl; have := yR.1 16 _ _ rfl; have := yR.1 19 _ _ rfl; first | omega | decide | exact fun h9 => absurd (by decide) h9) (by have := yR.1 15 _ _ rfl; have := yR.1 16 _ _ rfl; have := yR.1 19 _ _ rfl; first | omega | decide | exact fun h9 => absurd (by decide) h9) (by have := yR.1 15 _ _ rfl; have := yR.1 16 _ _ rfl; have := yR.1 19 _ _ rfl; first | omega | decide | exact fun h9 => absurd (by decide) h9) (by have := yR.1 15 _ _ rfl; have := yR.1 16 _ _ rfl; have := yR.1 19 _ _ rfl; first | omega | decide | exact fun h9 => absurd (by decide) h9) yR (by show (2147483647 - (0 : Int) : Int) < _; decide))
    · refine mv_iconst (v := 0) d_TrustDeskModel_isWord_24 (by decide) ?_
      exact mv_iret d_TrustDeskModel_isWord_25 rfl (by decide) ⟨_, I0, _, rfl, by decide, by decide, yR, (fun h => absurd h (by decide))⟩
theorem d_TrustDeskModel_readClause_29 : decode kY_TrustDeskModel_readClause.2.1 29 = .ok (.ifCond .ne 11, 3) := by decide +kernel
theorem d_TrustDeskModel_readClause_32 : decode kY_TrustDeskModel_readClause.2.1 32 = .ok (.aload_n 0, 1) := by decide +kernel
theorem d_TrustDeskModel_readClause_33 : decode kY_TrustDeskModel_readClause.2.1 33 = .ok (.iconst 1, 1) := by decide +kernel
theorem d_TrustDeskModel_readClause_34 : decode kY_TrustDeskModel_readClause.2.1 34 = .ok (.invokevirtual 240, 3) := by decide +kernel
theorem d_TrustDeskModel_readClause_37 : decode kY_TrustDeskModel_readClause.2.1 37 = .ok (.goto 33, 3) := by decide +kernel
def w_TrustDeskModel_readClause_x : List Nat := [1315, 1316, 1317, 1318, 1319, 1320, 1322, 1324, 20004, 20005, 20006, 20007, 20008, 20009, 20010, 20011, 20012, 20025, 20026]
set_option maxHeartbeats 100000000 in theorem tc_TrustDeskModel_readClause_x {g : mj_G} {l : Launch} {d : Nat} {T0 : tm_H} {M0 : mj_M} {n0 x9 : Nat} {o0 : Nat} (h_o0 : T0 o0 = some (0, 13, 0)) (yR : rI M0 o0) (yWW : rW M0 o0) (yw : rv M0 o0 19 = 0) (yo : rv M0 o0 17 ≠ 0) (yq : rv M0 o0 22 = 0) (ym : ra M0 o0 6 44 ≤ 12) (I0 : tm_I tm_FT (tm_in w_TrustDeskModel_readClause_x) x9 T0 M0 n0 T0 M0 n0) : mj_Met g l kY_TrustDeskModel_readClause (d + 26) [.ref o0] M0 n0 0 0 (tm_Q tm_FT (tm_in w_TrustDeskModel_readClause_x) x9 T0 M0 n0 (fun r _ M => r = none ∧ rI M o0 ∧ (rW M o0) ∧ (rO M0 M o0) ∧ (rv M0 o0 16 ≤ rv M o0 16 ∧ (rv M o0 19 = 0 → rv M0 o0 16 < rv M o0 16)) ∧ (rv M o0 19 = 0 → rv M o0 22 = 0) ∧ (rwE M0 o0 → rv M o0 19 = 0 → ra M o0 7 (880 + ra M0 o0 6 44).toNat = 8 ∧ ra M o0 6 44 = ra M0 o0 6 44 + 1) ∧ (ra M o0 6 44 ≤ 12))) := by
  refine mj_enter (by decide) (Nat.le_of_ble_eq_true rfl) ?_
  have yT := yWW.1
  have yS : rv M0 o0 19 = 0 → ra M0 o0 5 44 ≤ rv M0 o0 16 := fun h9 => (yWW.2 h9).1
  have yG := (yWW.2 yw).2
  have yN := yG.2.2
  have := yR.2 6 _ _ rfl 44
  have yE0 := rE.rf yT
  have K1 : rK M0 M0 o0 ((880 + ra M0 o0 6 44).toNat) := rK.rf
  have K2 : nN M0 o0 := yN
  refine mv_aload_n d_TrustDeskModel_readClause_0 rfl rfl ?_
  refine mv_ldcSw (id := 42) (tx := "end") d_TrustDeskModel_readClause_1 (List.mem_of_getElem? (i := 32) rfl) ?_
  obtain ⟨_, b9, -⟩ := I0.1 _ _ h_o0
  refine mv_callV (kc' := 0) (ks' := 0) (As := [.ref 42]) (st9 := [.ref 42, .ref o0]) d_TrustDeskModel_readClause_4 lV_TrustDeskModel_244 b9 rfl (tc_TrustDeskModel_isWord_s1_42_x (d := (d + 21)) (x9 := x9) (o0 := o0) h_o0 yR I0.start) rfl (Nat.le_of_ble_eq_true rfl) (Nat.le_of_ble_eq_true rfl) (Nat.le_of_ble_eq_true rfl) (hst := rfl) (fun b3r M4 n5 b3 => ?_)
  obtain ⟨T6, J7, v10, rfl, b11, b12, R13, f14, f15, f16⟩ := b3
  have I8 := I0.call J7 (tm_sub (by decide)) (Or.inl rfl)
  have t17 := J7.up h_o0
  have z18 := (rv_c I0 J7 (I0.up h_o0) (k := 15) rfl)
  have z19 := (rv_c I0 J7 (I0.up h_o0) (k := 16) rfl)
  have z20 := (rv_c I0 J7 (I0.up h_o0) (k := 17) rfl)
  have z21 := (rv_c I0 J7 (I0.up h_o0) (k := 19) rfl)
  have z22 := (rv_c I0 J7 (I0.up h_o0) (k := 22) rfl)
  have z23 := (rv_c I0 J7 (I0.up h_o0) (k := 24) rfl)
  have z24 := (ra_call I0 J7 (I0.up h_o0) (k := 5) rfl rfl rfl 44)
  have z25 := (ra_call I0 J7 (I0.up h_o0) (k := 6) rfl rfl rfl 44)
  have E26 : rE M0 M4 o0 0 0 := yE0.same (rE_hv I0 J7 (I0.up h_o0) 15 19 (by decide)) (rE_ha I0 J7 (I0.up h_o0) (by decide))
  have K27 : rK M0 M4 o0 ((880 + ra M0 o0 6 44).toNat) := K1.same (sA_c I0 J7 (I0.up h_o0) (by decide))
  have K28 : nN M4 o0 := K2.same (sA_c I0 J7 (I0.up h_o0) (by decide)) (sF_c I0 J7 (I0.up h_o0) (by decide))
  refine mv_istore_n (lv' := [(1, .int v10), (0, .ref o0)]) d_TrustDeskModel_readClause_7 rfl (by decide) rfl ?_
  refine mv_iload_n d_TrustDeskModel_readClause_8 rfl rfl ?_
  have := mz_hi v10
  refine mv_if_neZ (tgt := 40) (a := v10.toInt) d_TrustDeskModel_readClause_9 (by decide) rfl (fun b29 => ?_) (fun b29 => ?_)
  · refine mv_aload_n d_TrustDeskModel_readClause_40 rfl rfl ?_
    obtain ⟨a31, q30, t_a31⟩ := tm_atR I8 t17 (k := 6) rfl
    refine tr_getK q30 d_TrustDeskModel_readClause_41 f_TrustDeskModel_23_13 ?_
    refine mv_bipush (v := 44) d_TrustDeskModel_readClause_44 (by decide) ?_
    refine tr_ialdR (o := o0) (k := 6) I8 q30 t_a31 (by decide) d_TrustDeskModel_readClause_46 (by unfold vp_in; decide) (fun v32 e33 => ?_)
    have := R13.a (k := 6) rfl (44 : Int32).toNatClampNeg
    have : v32.toInt = ra M4 o0 6 44 := e33
    have : v32.toInt = _ := Eq.trans e33 z25
    refine mv_bipush (v := 12) d_TrustDeskModel_readClause_47 (by decide) ?_
    have := mz_hi v32
    refine mv_icmp_eqZ (tgt := 65) (a := v32.toInt) (b := 12) d_TrustDeskModel_readClause_49 (by decide) rfl (by decide) (fun b34 => ?_) (fun b34 => ?_)
    · refine mv_aload_n d_TrustDeskModel_readClause_65 rfl rfl ?_
      refine mv_iconst (v := 4) d_TrustDeskModel_readClause_66 (by decide) ?_
      obtain ⟨_, b41, -⟩ := I8.1 _ _ t17
      have : (4 : Int32).toInt = 4 := by decide
      refine mv_callV (kc' := 0) (ks' := 0) (As := [.int 4]) (st9 := [.int 4, .ref o0]) d_TrustDeskModel_readClause_67 lV_TrustDeskModel_240 b41 rfl (tc_TrustDeskModel_fails_x (d := (d + 25)) (x9 := x9) (o0 := o0) (x1 := 4) t17 R13 (by decide) I8.start) rfl (Nat.le_of_ble_eq_true rfl) (Nat.le_of_ble_eq_true rfl) (Nat.le_of_ble_eq_true rfl) (hst := rfl) (fun b35r M36 n37 b35 => ?_)
      obtain ⟨T38, J39, rfl, R42, f43⟩ := b35
      have I40 := I8.call J39 (tm_sub (by decide)) (Or.inl rfl)
      have t44 := J39.up t17
      have z45 := (rv_c I8 J39 (I8.up h_o0) (k := 15) rfl).trans z18
      have z46 := (rv_c I8 J39 (I8.up h_o0) (k := 16) rfl).trans z19
      have z47 := (rv_c I8 J39 (I8.up h_o0) (k := 17) rfl).trans z20
      have z48 := (rv_c I8 J39 (I8.up h_o0) (k := 22) rfl).trans z22
      have z49 := (rv_c I8 J39 (I8.up h_o0) (k := 24) rfl).trans z23
      have z50 := (ra_call I8 J39 (I8.up h_o0) (k := 5) rfl rfl rfl 44).trans z24
      have z51 := (ra_call I8 J39 (I8.up h_o0) (k := 6) rfl rfl rfl 44).trans z25
      have E52 : rE M0 M36 o0 0 0 := E26.fails (rE_hv I8 J39 (I8.up h_o0) 15 18 (by decide)) (rE_ha I8 J39 (I8.up h_o0) (by decide)) f43 0 0
      have K53 : rK M0 M36 o0 ((880 + ra M0 o0 6 44).toNat) := K27.same (sA_c I8 J39 (I8.up h_o0) (by decide))
      have K54 : nN M36 o0 := K28.same (sA_c I8 J39 (I8.up h_o0) (by decide)) (sF_c I8 J39 (I8.up h_o0) (by decide))
      clear z18 z19 z20 z22 z23 z24 z25
      have q55 := J39.keep t17 (by decide) q30
      have t56 := J39.up t_a31
      refine mv_aload_n d_TrustDeskModel_readClause_70 rfl rfl ?_
      obtain ⟨_, b57, -⟩ := I40.1 _ _ t44
      refine mv_callV (kc1 := 0) (ks1 := 0) (kc' := 0) (ks' := 0) (As := []) (st9 := [.ref o0]) d_TrustDeskModel_readClause_71 lV_TrustDeskModel_230 b57 rfl (mj_enter (by decide) (Nat.le_of_ble_eq_true rfl) ?_) rfl (Nat.le_of_ble_eq_true rfl) (Nat.le_of_ble_eq_true rfl) (Nat.le_of_ble_eq_true rfl) (hst := rfl) (fun _ _ _ h => h)
      refine mv_aload_n d_TrustDeskModel_isWell_0 rfl rfl ?_
      obtain ⟨v59, q58⟩ := tm_atI I40 t44 (k := 19) rfl
      refine tr_getK q58 d_TrustDeskModel_isWell_1 f_TrustDeskModel_224_13 ?_
      have := R42.f (k := 19) q58 rfl
      have := tm_rv q58
      refine mv_if_neZ (tgt := 11) (a := v59.toInt) d_TrustDeskModel_isWell_4 (by decide) rfl (fun b60 => ?_) (fun b60 => ?_)
      · refine mv_iconst (v := 0) d_TrustDeskModel_isWell_11 (by decide) ?_
        refine mv_iret d_TrustDeskModel_isWell_12 rfl (by decide) ?_
        refine mv_if_ne_f (tgt := 78) d_TrustDeskModel_readClause_74 (by decide) (by decide) ?_
        exact mv_vret d_TrustDeskModel_readClause_77 rfl ⟨_, I40, rfl, R42, (rW.of E52.1 (fun h9 => absurd h9 (by have := R42.1 15 _ _ rfl; have := R42.1 16 _ _ rfl; have := R42.1 19 _ _ rfl; have := E52.f yS; omega)) (fun h9 => absurd h9 (by have := R42.1 15 _ _ rfl; have := R42.1 16 _ _ rfl; have := R42.1 19 _ _ rfl; have := E52.f yS; omega))), (rO.of E52 K53 (by have := yR.2 6 _ _ rfl 44; omega)), (by have := R42.1 15 _ _ rfl; have := R42.1 16 _ _ rfl; have := R42.1 19 _ _ rfl; have := E52.f yS; omega), (by have := R42.1 15 _ _ rfl; have := R42.1 16 _ _ rfl; have := R42.1 19 _ _ rfl; have := E52.f yS; omega), (fun _ h9 => absurd h9 (by have := R42.1 15 _ _ rfl; have := R42.1 16 _ _ rfl; have := R42.1 19 _ _ rfl; have := E52.f yS; omega)), (by have := R42.1 15 _ _ rfl; have := R42.1 16 _ _ rfl; have := R42.1 19 _ _ rfl; have := E52.f yS; omega)⟩
      · exfalso
        have := R42.1 15 _ _ rfl; have := R42.1 16 _ _ rfl; have := R42.1 19 _ _ rfl; have := E52.f yS; omega
    · refine mv_iload_n d_TrustDeskModel_readClause_52 rfl rfl ?_
      have := mz_hi v10
      refine mv_if_eqZ (tgt := 70) (a := v10.toInt) d_TrustDeskModel_readClause_53 (by decide) rfl (fun b61 => absurd b61 (by omega)) (fun b61 => ?_)
      refine mv_aload_n d_TrustDeskModel_readClause_56 rfl rfl ?_
      obtain ⟨v63, q62⟩ := tm_atI I8 t17 (k := 24) rfl
      refine tr_getK q62 d_TrustDeskModel_readClause_57 f_TrustDeskModel_321_13 ?_
      have := R13.f (k := 24) q62 rfl
      have := (tm_rv q62).symm.trans z23
      have := tm_rv q62
      refine mv_bipush (v := 6) d_TrustDeskModel_readClause_60 (by decide) ?_
      have := mz_hi v63
      refine mv_icmp_neZ (tgt := 70) (a := v63.toInt) (b := 6) d_TrustDeskModel_readClause_62 (by decide) rfl (by decide) (fun b64 => ?_) (fun b64 => ?_)
      · refine mv_aload_n d_TrustDeskModel_readClause_70 rfl rfl ?_
        obtain ⟨_, b65, -⟩ := I8.1 _ _ t17
        refine mv_callV (kc1 := 0) (ks1 := 0) (kc' := 0) (ks' := 0) (As := []) (st9 := [.ref o0]) d_TrustDeskModel_readClause_71 lV_TrustDeskModel_230 b65 rfl (mj_enter (by decide) (Nat.le_of_ble_eq_true rfl) ?_) rfl (Nat.le_of_ble_eq_true rfl) (Nat.le_of_ble_eq_true rfl) (Nat.le_of_ble_eq_true rfl) (hst := rfl) (fun _ _ _ h => h)
        refine mv_aload_n d_TrustDeskModel_isWell_0 rfl rfl ?_
        obtain ⟨v67, q66⟩ := tm_atI I8 t17 (k := 19) rfl
        refine tr_getK q66 d_TrustDeskModel_isWell_1 f_TrustDeskModel_224_13 ?_
        have := R13.f (k := 19) q66 rfl
        have := (tm_rv q66).symm.trans z21
        have := tm_rv q66
        have := mz_hi v67
        refine mv_if_neZ (tgt := 11) (a := v67.toInt) d_TrustDeskModel_isWell_4 (by decide) rfl (fun b68 => ?_) (fun b68 => ?_)
        · refine mv_iconst (v := 0) d_TrustDeskModel_isWell_11 (by decide) ?_
          refine mv_iret d_TrustDeskModel_isWell_12 rfl (by decide) ?_
          refine mv_if_ne_f (tgt := 78) d_TrustDeskModel_readClause_74 (by decide) (by decide) ?_
          exact mv_vret d_TrustDeskModel_readClause_77 rfl ⟨_, I8, rfl, R13, (rW.of E26.1 (fun w9 => (by have := R13.1 15 _ _ rfl; have := R13.1 16 _ _ rfl; have := R13.1 19 _ _ rfl; have := E26.f yS; omega)) (fun w9 => rG.step yG yR E26 w9 K27 (by have := yR.2 6 _ _ rfl 44; omega) (by have := R13.1 15 _ _ rfl; have := R13.1 16 _ _ rfl; have := R13.1 19 _ _ rfl; have := E26.f yS; omega) (by have := R13.1 15 _ _ rfl; have := R13.1 16 _ _ rfl; have := R13.1 19 _ _ rfl; have := E26.f yS; omega) (fun h9 => by exfalso; have := R13.1 15 _ _ rfl; have := R13.1 16 _ _ rfl; have := R13.1 19 _ _ rfl; have := E26.f yS; omega) (fun h9 => (by have := R13.1 15 _ _ rfl; have := R13.1 16 _ _ rfl; have := R13.1 19 _ _ rfl; have := E26.f yS; omega)) (by have := R13.1 15 _ _ rfl; have := R13.1 16 _ _ rfl; have := R13.1 19 _ _ rfl; have := E26.f yS; omega) K28)), (rO.of E26 K27 (by have := yR.2 6 _ _ rfl 44; omega)), (by have := R13.1 15 _ _ rfl; have := R13.1 16 _ _ rfl; have := R13.1 19 _ _ rfl; have := E26.f yS; omega), (by have := R13.1 15 _ _ rfl; have := R13.1 16 _ _ rfl; have := R13.1 19 _ _ rfl; have := E26.f yS; omega), (fun h9 _ => absurd h9 (f16 (by have := R13.1 15 _ _ rfl; have := R13.1 16 _ _ rfl; have := R13.1 19 _ _ rfl; have := E26.f yS; omega))), (by have := R13.1 15 _ _ rfl; have := R13.1 16 _ _ rfl; have := R13.1 19 _ _ rfl; have := E26.f yS; omega)⟩
        · refine mv_iconst (v := 1) d_TrustDeskModel_isWell_7 (by decide) ?_
          refine mv_goto (tgt := 12) d_TrustDeskModel_isWell_8 (by decide) ?_
          refine mv_iret d_TrustDeskModel_isWell_12 rfl (by decide) ?_
          refine mv_if_ne_t (tgt := 78) d_TrustDeskModel_readClause_74 (by decide) (by decide) ?_
          refine mv_aload_n d_TrustDeskModel_readClause_78 rfl rfl ?_
          refine mv_ldcSw (id := 43) (tx := "mark") d_TrustDeskModel_readClause_79 (List.mem_of_getElem? (i := 33) rfl) ?_
          obtain ⟨_, b75, -⟩ := I8.1 _ _ t17
          refine mv_callV (kc' := 0) (ks' := 0) (As := [.ref 43]) (st9 := [.ref 43, .ref o0]) d_TrustDeskModel_readClause_82 lV_TrustDeskModel_244 b75 rfl (tc_TrustDeskModel_isWord_s1_43_x (d := (d + 21)) (x9 := x9) (o0 := o0) t17 R13 I8.start) rfl (Nat.le_of_ble_eq_true rfl) (Nat.le_of_ble_eq_true rfl) (Nat.le_of_ble_eq_true rfl) (hst := rfl) (fun b69r M70 n71 b69 => ?_)
          obtain ⟨T72, J73, v76, rfl, b77, b78, R79, f80⟩ := b69
          have I74 := I8.call J73 (tm_sub (by decide)) (Or.inl rfl)
          have t81 := J73.up t17
          have z82 := (rv_c I8 J73 (I8.up h_o0) (k := 15) rfl).trans z18
          have z83 := (rv_c I8 J73 (I8.up h_o0) (k := 16) rfl).trans z19
          have z84 := (rv_c I8 J73 (I8.up h_o0) (k := 17) rfl).trans z20
          have z85 := (rv_c I8 J73 (I8.up h_o0) (k := 19) rfl).trans z21
          have z86 := (rv_c I8 J73 (I8.up h_o0) (k := 22) rfl).trans z22
          have z87 := (rv_c I8 J73 (I8.up h_o0) (k := 24) rfl).trans z23
          have z88 := (ra_call I8 J73 (I8.up h_o0) (k := 5) rfl rfl rfl 44).trans z24
          have z89 := (ra_call I8 J73 (I8.up h_o0) (k := 6) rfl rfl rfl 44).trans z25
          have E90 : rE M0 M70 o0 0 0 := E26.same (rE_hv I8 J73 (I8.up h_o0) 15 19 (by decide)) (rE_ha I8 J73 (I8.up h_o0) (by decide))
          have K91 : rK M0 M70 o0 ((880 + ra M0 o0 6 44).toNat) := K27.same (sA_c I8 J73 (I8.up h_o0) (by decide))
          have K92 : nN M70 o0 := K28.same (sA_c I8 J73 (I8.up h_o0) (by decide)) (sF_c I8 J73 (I8.up h_o0) (by decide))
          clear z18 z19 z21 z22 z23 z24 z25
          have q93 := J73.keep t17 (by decide) q30
          have t94 := J73.up t_a31
          have q95 := J73.keep t17 (by decide) q62
          have q96 := J73.keep t17 (by decide) q66
          refine mv_istore_n (lv' := [(2, .int v76), (1, .int v10), (0, .ref o0)]) d_TrustDeskModel_readClause_85 rfl (by decide) rfl ?_
          refine mv_aload_n d_TrustDeskModel_readClause_86 rfl rfl ?_
          refine mv_iload_n d_TrustDeskModel_readClause_87 rfl rfl ?_
          have := mz_hi v10
          refine mv_if_eqZ (tgt := 96) (a := v10.toInt) d_TrustDeskModel_readClause_88 (by decide) rfl (fun b97 => absurd b97 (by omega)) (fun b97 => ?_)
          refine mv_bipush (v := 8) d_TrustDeskModel_readClause_91 (by decide) ?_
          refine mv_goto (tgt := 107) d_TrustDeskModel_readClause_93 (by decide) ?_
          obtain ⟨_, b104, -⟩ := I74.1 _ _ t81
          have : (8 : Int32).toInt = 8 := by decide
          refine mv_callV (kc' := 0) (ks' := 0) (As := [.int 8]) (st9 := [.int 8, .ref o0]) d_TrustDeskModel_readClause_107 lV_TrustDeskModel_342 b104 rfl (tc_TrustDeskModel_begin_x (d := (d + 23)) (x9 := x9) (o0 := o0) (x1 := 8) t81 R79 E90.1 (by have := R79.1 15 _ _ rfl; have := R79.1 16 _ _ rfl; have := R79.1 19 _ _ rfl; have := E90.f yS; omega) (by have := R79.1 15 _ _ rfl; have := R79.1 16 _ _ rfl; have := R79.1 19 _ _ rfl; have := E90.f yS; omega) (by have := R79.1 15 _ _ rfl; have := R79.1 16 _ _ rfl; have := R79.1 19 _ _ rfl; have := E90.f yS; omega) (by have := R79.1 15 _ _ rfl; have := R79.1 16 _ _ rfl; have := R79.1 19 _ _ rfl; have := E90.f yS; omega) I74.start) rfl (Nat.le_of_ble_eq_true rfl) (Nat.le_of_ble_eq_true rfl) (Nat.le_of_ble_eq_true rfl) (hst := rfl) (fun b98r M99 n100 b98 => ?_)
          obtain ⟨T101, J102, v105, rfl, R106, f107, f108, f109, f110, f111, f112⟩ := b98
          have I103 := I74.call J102 (tm_sub (by decide)) (Or.inl rfl)
          have t113 := J102.up t81
          have z114 := (rv_c I74 J102 (I74.up h_o0) (k := 19) rfl).trans z85
          have z115 := (rv_c I74 J102 (I74.up h_o0) (k := 22) rfl).trans z86
          have z116 := (rv_c I74 J102 (I74.up h_o0) (k := 24) rfl).trans z87
          have z117 := (ra_call I74 J102 (I74.up h_o0) (k := 5) rfl rfl rfl 44).trans z88
          have E118 : rE M0 M99 o0 0 1 := E90.trans f107 (by decide) (yR.2 5 _ _ rfl 44).1 (by decide) (by decide)
          have := f107.w
          have := f107.w2
          have h119 : (880 + ra M70 o0 6 44).toNat = (880 + ra M0 o0 6 44).toNat := by omega
          rw [h119] at f110 f111 f112
          have K120 : rK M0 M99 o0 ((880 + ra M0 o0 6 44).toNat) := K91.trans f112
          have K121 : nN M99 o0 := K92.same (sA_c I74 J102 (I74.up h_o0) (by decide)) (sF_c I74 J102 (I74.up h_o0) (by decide))
          clear z85 z86 z87
          have q122 := J102.keep t81 (by decide) q93
          have t123 := J102.up t94
          have q124 := J102.keep t81 (by decide) q95
          have q125 := J102.keep t81 (by decide) q96
          refine mv_istore_n (lv' := [(3, .int v105), (2, .int v76), (1, .int v10), (0, .ref o0)]) d_TrustDeskModel_readClause_110 rfl (by decide) rfl ?_
          refine mv_iload_n d_TrustDeskModel_readClause_111 rfl rfl ?_
          have := mz_hi v10
          refine mv_if_eqZ (tgt := 123) (a := v10.toInt) d_TrustDeskModel_readClause_112 (by decide) rfl (fun b126 => absurd b126 (by omega)) (fun b126 => ?_)
          refine mv_aload_n d_TrustDeskModel_readClause_115 rfl rfl ?_
          refine mv_iload_n d_TrustDeskModel_readClause_116 rfl rfl ?_
          obtain ⟨_, b133, -⟩ := I103.1 _ _ t113
          refine mv_callV (kc' := 0) (ks' := 0) (As := [.int v105]) (st9 := [.int v105, .ref o0]) d_TrustDeskModel_readClause_117 lV_TrustDeskModel_345 b133 rfl (tc_TrustDeskModel_readEnd_x (d := d) (x9 := x9) (o0 := o0) (x1 := v105) t113 R106 E118.1 (by have := R106.1 15 _ _ rfl; have := R106.1 16 _ _ rfl; have := R106.1 19 _ _ rfl; have := E118.f yS; omega) (by have := R106.1 15 _ _ rfl; have := R106.1 16 _ _ rfl; have := R106.1 19 _ _ rfl; have := E118.f yS; omega) (by have := R106.1 15 _ _ rfl; have := R106.1 16 _ _ rfl; have := R106.1 19 _ _ rfl; have := E118.f yS; omega) (by have := R106.1 15 _ _ rfl; have := R106.1 16 _ _ rfl; have := R106.1 19 _ _ rfl; have := E118.f yS; omega) K121 (by have := R106.1 15 _ _ rfl; have := R106.1 16 _ _ rfl; have := R106.1 19 _ _ rfl; have := E118.f yS; omega) I103.start) rfl (Nat.le_of_ble_eq_true rfl) (Nat.le_of_ble_eq_true rfl) (Nat.le_of_ble_eq_true rfl) (hst := rfl) (fun b127r M128 n129 b127 => ?_)
          obtain ⟨T130, J131, rfl, R134, f135, f136, f137, f138, f139, f140⟩ := b127
          have I132 := I103.call J131 (tm_sub (by decide)) (Or.inl rfl)
          have t141 := J131.up t113
          have z142 := (ra_call I103 J131 (I103.up h_o0) (k := 6) rfl rfl rfl 44)
          have z143 := (ra_call I103 J131 (I103.up h_o0) (k := 7) rfl rfl rfl ((880 + ra M0 o0 6 44).toNat))
          have z144 := (ra_call I103 J131 (I103.up h_o0) (k := 10) rfl rfl rfl ((880 + ra M0 o0 6 44).toNat))
          have E145 : rE M0 M128 o0 2 1 := E118.trans f135 (by decide) (yR.2 5 _ _ rfl 44).1 (by decide) (by decide)
          have := f135.w
          have := f135.w2
          have h146 : v105.toNatClampNeg = (880 + ra M0 o0 6 44).toNat := by have := mz_nat9 (i := v105) (by have := R106.1 15 _ _ rfl; have := R106.1 16 _ _ rfl; have := R106.1 19 _ _ rfl; have := E118.f yS; omega); have := R106.1 15 _ _ rfl; have := R106.1 16 _ _ rfl; have := R106.1 19 _ _ rfl; have := E118.f yS; omega
          rw [h146] at f136 f138 f140
          have K147 : rK M0 M128 o0 ((880 + ra M0 o0 6 44).toNat) := K120.trans f136
          have K148 : nN M128 o0 := f137
          have K149 : rv M128 o0 19 = 0 → rD M99 M128 o0 (880 + ra M0 o0 6 44).toNat := f140
          have q150 := J131.keep t113 (by decide) q122
          have t151 := J131.up t123
          refine mv_goto (tgt := 165) d_TrustDeskModel_readClause_120 (by decide) ?_
          refine mv_aload_n d_TrustDeskModel_readClause_165 rfl rfl ?_
          refine mv_bipush (v := 59) d_TrustDeskModel_readClause_166 (by decide) ?_
          obtain ⟨_, b158, -⟩ := I132.1 _ _ t141
          have : (59 : Int32).toInt = 59 := by decide
          refine mv_callV (kc' := 0) (ks' := 0) (As := [.int 59]) (st9 := [.int 59, .ref o0]) d_TrustDeskModel_readClause_168 lV_TrustDeskModel_291 b158 rfl (tc_TrustDeskModel_wantSign_x (d := (d + 23)) (x9 := x9) (o0 := o0) (x1 := 59) t141 R134 E145.1 (by have := R134.1 15 _ _ rfl; have := R134.1 16 _ _ rfl; have := R134.1 19 _ _ rfl; have := E145.f yS; omega) I132.start) rfl (Nat.le_of_ble_eq_true rfl) (Nat.le_of_ble_eq_true rfl) (Nat.le_of_ble_eq_true rfl) (hst := rfl) (fun b152r M153 n154 b152 => ?_)
          obtain ⟨T155, J156, rfl, R159, f160⟩ := b152
          have I157 := I132.call J156 (tm_sub (by decide)) (Or.inl rfl)
          have t161 := J156.up t141
          have z162 := (rv_c I132 J156 (I132.up h_o0) (k := 22) rfl)
          have z163 := (rv_c I132 J156 (I132.up h_o0) (k := 24) rfl)
          have z164 := (ra_call I132 J156 (I132.up h_o0) (k := 5) rfl rfl rfl 44)
          have z165 := (ra_call I132 J156 (I132.up h_o0) (k := 6) rfl rfl rfl 44).trans z142
          have z166 := (ra_call I132 J156 (I132.up h_o0) (k := 7) rfl rfl rfl ((880 + ra M0 o0 6 44).toNat)).trans z143
          have z167 := (ra_call I132 J156 (I132.up h_o0) (k := 10) rfl rfl rfl ((880 + ra M0 o0 6 44).toNat)).trans z144
          have z168 := (ra_call I132 J156 (I132.up h_o0) (k := 8) rfl rfl rfl ((880 + ra M0 o0 6 44).toNat))
          have E169 : rE M0 M153 o0 2 2 := E145.trans f160 (by decide) (yR.2 5 _ _ rfl 44).1 (by decide) (by decide)
          have := f160.w
          have := f160.w2
          have K170 : rK M0 M153 o0 ((880 + ra M0 o0 6 44).toNat) := K147.same (sA_c I132 J156 (I132.up h_o0) (by decide))
          have K171 : nN M153 o0 := K148.same (sA_c I132 J156 (I132.up h_o0) (by decide)) (sF_c I132 J156 (I132.up h_o0) (by decide))
          have K172 : rv M153 o0 19 = 0 → rD M99 M153 o0 (880 + ra M0 o0 6 44).toNat := (fun w9 => (K149 (f160.w.2 w9)).same (sA_c I132 J156 (I132.up h_o0) (by decide)))
          clear z142 z143 z144
          have q173 := J156.keep t141 (by decide) q150
          have t174 := J156.up t151
          refine mv_aload_n d_TrustDeskModel_readClause_171 rfl rfl ?_
          obtain ⟨a176, q175, t_a176⟩ := tm_atR I157 t161 (k := 12) rfl
          refine tr_getK q175 d_TrustDeskModel_readClause_172 f_TrustDeskModel_41_13 ?_
          refine mv_iload_n d_TrustDeskModel_readClause_175 rfl rfl ?_
          refine mv_aload_n d_TrustDeskModel_readClause_176 rfl rfl ?_
          obtain ⟨a178, q177, t_a178⟩ := tm_atR I157 t161 (k := 5) rfl
          refine tr_getK q177 d_TrustDeskModel_readClause_177 f_TrustDeskModel_20_13 ?_
          refine mv_bipush (v := 44) d_TrustDeskModel_readClause_180 (by decide) ?_
          refine tr_ialdR (o := o0) (k := 5) I157 q177 t_a178 (by decide) d_TrustDeskModel_readClause_182 (by unfold vp_in; decide) (fun v179 e180 => ?_)
          have := R159.a (k := 5) rfl (44 : Int32).toNatClampNeg
          have : v179.toInt = ra M153 o0 5 44 := e180
          have : v179.toInt = _ := Eq.trans e180 z164
          refine tr_iastR (k := 12) I157 R159 (I157.up h_o0) q175 t_a176 (by decide) (by decide) (fun lo hi h => by cases h; have := R159.1 15 _ _ rfl; have := R159.1 16 _ _ rfl; have := R159.1 19 _ _ rfl; have := E169.f yS; exact ⟨by show (0 : Int) ≤ v179.toInt; omega, by show v179.toInt ≤ (400 : Int); omega⟩) (Or.inl (by decide)) d_TrustDeskModel_readClause_183 (vp_in_iff.mpr (by have := R159.1 15 _ _ rfl; have := R159.1 16 _ _ rfl; have := R159.1 19 _ _ rfl; have := E169.f yS; omega)) (fun M181 I182 K183 R184 E185 A186 V187 => ?_)
          have z188 := (V187 15)
          have z189 := (V187 16)
          have z190 := (V187 17)
          have z191 := (V187 19)
          have z192 := (V187 22).trans z162
          have z193 := (V187 24).trans z163
          have z194 := (A186 5 (by decide) rfl 44).trans z164
          have z195 := (A186 6 (by decide) rfl 44).trans z165
          have z196 := (A186 7 (by decide) rfl ((880 + ra M0 o0 6 44).toNat)).trans z166
          have z197 := (A186 10 (by decide) rfl ((880 + ra M0 o0 6 44).toNat)).trans z167
          have z198 := (A186 8 (by decide) rfl ((880 + ra M0 o0 6 44).toNat)).trans z168
          have E199 : rE M0 M181 o0 2 2 := E169.same (fun k _ _ => V187 k) (fun k h1 h2 => A186 k (by omega) (by rcases (show k = 4 ∨ k = 5 by omega) with rfl | rfl <;> rfl))
          have h200 : (880 + ra M0 o0 6 44).toNat = v105.toNatClampNeg := by have := mz_nat9 (i := v105) (by have := R159.1 15 _ _ rfl; have := R159.1 16 _ _ rfl; have := R159.1 19 _ _ rfl; have := E169.f yS; omega); have := R159.1 15 _ _ rfl; have := R159.1 16 _ _ rfl; have := R159.1 19 _ _ rfl; have := E169.f yS; omega
          have z201 : ra M181 o0 12 ((880 + ra M0 o0 6 44).toNat) = v179.toInt := (E185 _).trans (if_pos h200)
          have K202 : rK M0 M181 o0 ((880 + ra M0 o0 6 44).toNat) := K170.st A186 E185 (by have := mz_nat9 (i := v105) (by have := R159.1 15 _ _ rfl; have := R159.1 16 _ _ rfl; have := R159.1 19 _ _ rfl; have := E169.f yS; omega); have := R159.1 15 _ _ rfl; have := R159.1 16 _ _ rfl; have := R159.1 19 _ _ rfl; have := E169.f yS; omega)
          have K203 : nN M181 o0 := K171.same (sA_a A186 (by decide)) (sF_a V187)
          have K204 : rv M181 o0 19 = 0 → rD M99 M181 o0 (880 + ra M0 o0 6 44).toNat := (fun w9 => (K172 (by have e9 := ((sF_a V187) : sF [19] _ _ _) 19 rfl; rw [← e9]; exact w9)).same (sA_a A186 (by decide)))
          clear z162 z163 z164 z165 z166 z167 z168
          exact mv_vret d_TrustDeskModel_readClause_184 rfl ⟨_, I182, rfl, R184, (rW.of E199.1 (fun w9 => (by have := R184.1 15 _ _ rfl; have := R184.1 16 _ _ rfl; have := R184.1 19 _ _ rfl; have := E199.f yS; omega)) (fun w9 => rG.step yG yR E199 w9 K202 (by have := yR.2 6 _ _ rfl 44; omega) (by have := R184.1 15 _ _ rfl; have := R184.1 16 _ _ rfl; have := R184.1 19 _ _ rfl; have := E199.f yS; omega) (by have := R184.1 15 _ _ rfl; have := R184.1 16 _ _ rfl; have := R184.1 19 _ _ rfl; have := E199.f yS; omega) (fun _ => rowN.ofD (K204 w9) (by have := R184.1 15 _ _ rfl; have := R184.1 16 _ _ rfl; have := R184.1 19 _ _ rfl; have := E199.f yS; omega) (by have := R184.1 15 _ _ rfl; have := R184.1 16 _ _ rfl; have := R184.1 19 _ _ rfl; have := E199.f yS; omega)) (fun h9 => (by have := R184.1 15 _ _ rfl; have := R184.1 16 _ _ rfl; have := R184.1 19 _ _ rfl; have := E199.f yS; omega)) (by have := R184.1 15 _ _ rfl; have := R184.1 16 _ _ rfl; have := R184.1 19 _ _ rfl; have := E199.f yS; omega) K203)), (rO.of E199 K202 (by have := yR.2 6 _ _ rfl 44; omega)), (by have := R184.1 15 _ _ rfl; have := R184.1 16 _ _ rfl; have := R184.1 19 _ _ rfl; have := E199.f yS; omega), (by have := R184.1 15 _ _ rfl; have := R184.1 16 _ _ rfl; have := R184.1 19 _ _ rfl; have := E199.f yS; omega), (fun _ _ => ⟨(by have := R184.1 15 _ _ rfl; have := R184.1 16 _ _ rfl; have := R184.1 19 _ _ rfl; have := E199.f yS; omega), (by have := R184.1 15 _ _ rfl; have := R184.1 16 _ _ rfl; have := R184.1 19 _ _ rfl; have := E199.f yS; omega)⟩), (by have := R184.1 15 _ _ rfl; have := R184.1 16 _ _ rfl; have := R184.1 19 _ _ rfl; have := E199.f yS; omega)⟩
      · refine mv_aload_n d_TrustDeskModel_readClause_65 rfl rfl ?_
        refine mv_iconst (v := 4) d_TrustDeskModel_readClause_66 (by decide) ?_
        obtain ⟨_, b211, -⟩ := I8.1 _ _ t17
        have : (4 : Int32).toInt = 4 := by decide
        refine mv_callV (kc' := 0) (ks' := 0) (As := [.int 4]) (st9 := [.int 4, .ref o0]) d_TrustDeskModel_readClause_67 lV_TrustDeskModel_240 b211 rfl (tc_TrustDeskModel_fails_x (d := (d + 25)) (x9 := x9) (o0 := o0) (x1 := 4) t17 R13 (by decide) I8.start) rfl (Nat.le_of_ble_eq_true rfl) (Nat.le_of_ble_eq_true rfl) (Nat.le_of_ble_eq_true rfl) (hst := rfl) (fun b205r M206 n207 b205 => ?_)
        obtain ⟨T208, J209, rfl, R212, f213⟩ := b205
        have I210 := I8.call J209 (tm_sub (by decide)) (Or.inl rfl)
        have t214 := J209.up t17
        have z215 := (rv_c I8 J209 (I8.up h_o0) (k := 15) rfl).trans z18
        have z216 := (rv_c I8 J209 (I8.up h_o0) (k := 16) rfl).trans z19
        have z217 := (rv_c I8 J209 (I8.up h_o0) (k := 17) rfl).trans z20
        have z218 := (rv_c I8 J209 (I8.up h_o0) (k := 22) rfl).trans z22
        have z219 := (rv_c I8 J209 (I8.up h_o0) (k := 24) rfl).trans z23
        have z220 := (ra_call I8 J209 (I8.up h_o0) (k := 5) rfl rfl rfl 44).trans z24
        have z221 := (ra_call I8 J209 (I8.up h_o0) (k := 6) rfl rfl rfl 44).trans z25
        have E222 : rE M0 M206 o0 0 0 := E26.fails (rE_hv I8 J209 (I8.up h_o0) 15 18 (by decide)) (rE_ha I8 J209 (I8.up h_o0) (by decide)) f213 0 0
        have K223 : rK M0 M206 o0 ((880 + ra M0 o0 6 44).toNat) := K27.same (sA_c I8 J209 (I8.up h_o0) (by decide))
        have K224 : nN M206 o0 := K28.same (sA_c I8 J209 (I8.up h_o0) (by decide)) (sF_c I8 J209 (I8.up h_o0) (by decide))
        clear z18 z19 z20 z22 z23 z24 z25
        have q225 := J209.keep t17 (by decide) q30
        have t226 := J209.up t_a31
        have q227 := J209.keep t17 (by decide) q62
        refine mv_aload_n d_TrustDeskModel_readClause_70 rfl rfl ?_
        obtain ⟨_, b228, -⟩ := I210.1 _ _ t214
        refine mv_callV (kc1 := 0) (ks1 := 0) (kc' := 0) (ks' := 0) (As := []) (st9 := [.ref o0]) d_TrustDeskModel_readClause_71 lV_TrustDeskModel_230 b228 rfl (mj_enter (by decide) (Nat.le_of_ble_eq_true rfl) ?_) rfl (Nat.le_of_ble_eq_true rfl) (Nat.le_of_ble_eq_true rfl) (Nat.le_of_ble_eq_true rfl) (hst := rfl) (fun _ _ _ h => h)
        refine mv_aload_n d_TrustDeskModel_isWell_0 rfl rfl ?_
        obtain ⟨v230, q229⟩ := tm_atI I210 t214 (k := 19) rfl
        refine tr_getK q229 d_TrustDeskModel_isWell_1 f_TrustDeskModel_224_13 ?_
        have := R212.f (k := 19) q229 rfl
        have := tm_rv q229
        refine mv_if_neZ (tgt := 11) (a := v230.toInt) d_TrustDeskModel_isWell_4 (by decide) rfl (fun b231 => ?_) (fun b231 => ?_)
        · refine mv_iconst (v := 0) d_TrustDeskModel_isWell_11 (by decide) ?_
          refine mv_iret d_TrustDeskModel_isWell_12 rfl (by decide) ?_
          refine mv_if_ne_f (tgt := 78) d_TrustDeskModel_readClause_74 (by decide) (by decide) ?_
          exact mv_vret d_TrustDeskModel_readClause_77 rfl ⟨_, I210, rfl, R212, (rW.of E222.1 (fun h9 => absurd h9 (by have := R212.1 15 _ _ rfl; have := R212.1 16 _ _ rfl; have := R212.1 19 _ _ rfl; have := E222.f yS; omega)) (fun h9 => absurd h9 (by have := R212.1 15 _ _ rfl; have := R212.1 16 _ _ rfl; have := R212.1 19 _ _ rfl; have := E222.f yS; omega))), (rO.of E222 K223 (by have := yR.2 6 _ _ rfl 44; omega)), (by have := R212.1 15 _ _ rfl; have := R212.1 16 _ _ rfl; have := R212.1 19 _ _ rfl; have := E222.f yS; omega), (by have := R212.1 15 _ _ rfl; have := R212.1 16 _ _ rfl; have := R212.1 19 _ _ rfl; have := E222.f yS; omega), (fun _ h9 => absurd h9 (by have := R212.1 15 _ _ rfl; have := R212.1 16 _ _ rfl; have := R212.1 19 _ _ rfl; have := E222.f yS; omega)), (by have := R212.1 15 _ _ rfl; have := R212.1 16 _ _ rfl; have := R212.1 19 _ _ rfl; have := E222.f yS; omega)⟩
        · exfalso
          have := R212.1 15 _ _ rfl; have := R212.1 16 _ _ rfl; have := R212.1 19 _ _ rfl; have := E222.f yS; omega
  · refine mv_aload_n d_TrustDeskModel_readClause_12 rfl rfl ?_
    refine mv_ldcSw (id := 43) (tx := "mark") d_TrustDeskModel_readClause_13 (List.mem_of_getElem? (i := 33) rfl) ?_
    obtain ⟨_, b238, -⟩ := I8.1 _ _ t17
    refine mv_callV (kc' := 0) (ks' := 0) (As := [.ref 43]) (st9 := [.ref 43, .ref o0]) d_TrustDeskModel_readClause_16 lV_TrustDeskModel_244 b238 rfl (tc_TrustDeskModel_isWord_s1_43_x (d := (d + 21)) (x9 := x9) (o0 := o0) t17 R13 I8.start) rfl (Nat.le_of_ble_eq_true rfl) (Nat.le_of_ble_eq_true rfl) (Nat.le_of_ble_eq_true rfl) (hst := rfl) (fun b232r M233 n234 b232 => ?_)
    obtain ⟨T235, J236, v239, rfl, b240, b241, R242, f243⟩ := b232
    have I237 := I8.call J236 (tm_sub (by decide)) (Or.inl rfl)
    have t244 := J236.up t17
    have z245 := (rv_c I8 J236 (I8.up h_o0) (k := 15) rfl).trans z18
    have z246 := (rv_c I8 J236 (I8.up h_o0) (k := 16) rfl).trans z19
    have z247 := (rv_c I8 J236 (I8.up h_o0) (k := 17) rfl).trans z20
    have z248 := (rv_c I8 J236 (I8.up h_o0) (k := 19) rfl).trans z21
    have z249 := (rv_c I8 J236 (I8.up h_o0) (k := 22) rfl).trans z22
    have z250 := (rv_c I8 J236 (I8.up h_o0) (k := 24) rfl).trans z23
    have z251 := (ra_call I8 J236 (I8.up h_o0) (k := 5) rfl rfl rfl 44).trans z24
    have z252 := (ra_call I8 J236 (I8.up h_o0) (k := 6) rfl rfl rfl 44).trans z25
    have E253 : rE M0 M233 o0 0 0 := E26.same (rE_hv I8 J236 (I8.up h_o0) 15 19 (by decide)) (rE_ha I8 J236 (I8.up h_o0) (by decide))
    have K254 : rK M0 M233 o0 ((880 + ra M0 o0 6 44).toNat) := K27.same (sA_c I8 J236 (I8.up h_o0) (by decide))
    have K255 : nN M233 o0 := K28.same (sA_c I8 J236 (I8.up h_o0) (by decide)) (sF_c I8 J236 (I8.up h_o0) (by decide))
    clear z18 z19 z21 z22 z23 z24 z25
    have := mz_hi v239
    refine mv_if_neZ (tgt := 40) (a := v239.toInt) d_TrustDeskModel_readClause_19 (by decide) rfl (fun b256 => ?_) (fun b256 => ?_)
    · refine mv_aload_n d_TrustDeskModel_readClause_40 rfl rfl ?_
      obtain ⟨a258, q257, t_a258⟩ := tm_atR I237 t244 (k := 6) rfl
      refine tr_getK q257 d_TrustDeskModel_readClause_41 f_TrustDeskModel_23_13 ?_
      refine mv_bipush (v := 44) d_TrustDeskModel_readClause_44 (by decide) ?_
      refine tr_ialdR (o := o0) (k := 6) I237 q257 t_a258 (by decide) d_TrustDeskModel_readClause_46 (by unfold vp_in; decide) (fun v259 e260 => ?_)
      have := R242.a (k := 6) rfl (44 : Int32).toNatClampNeg
      have : v259.toInt = ra M233 o0 6 44 := e260
      have : v259.toInt = _ := Eq.trans e260 z252
      refine mv_bipush (v := 12) d_TrustDeskModel_readClause_47 (by decide) ?_
      have := mz_hi v259
      refine mv_icmp_eqZ (tgt := 65) (a := v259.toInt) (b := 12) d_TrustDeskModel_readClause_49 (by decide) rfl (by decide) (fun b261 => ?_) (fun b261 => ?_)
      · refine mv_aload_n d_TrustDeskModel_readClause_65 rfl rfl ?_
        refine mv_iconst (v := 4) d_TrustDeskModel_readClause_66 (by decide) ?_
        obtain ⟨_, b268, -⟩ := I237.1 _ _ t244
        have : (4 : Int32).toInt = 4 := by decide
        refine mv_callV (kc' := 0) (ks' := 0) (As := [.int 4]) (st9 := [.int 4, .ref o0]) d_TrustDeskModel_readClause_67 lV_TrustDeskModel_240 b268 rfl (tc_TrustDeskModel_fails_x (d := (d + 25)) (x9 := x9) (o0 := o0) (x1 := 4) t244 R242 (by decide) I237.start) rfl (Nat.le_of_ble_eq_true rfl) (Nat.le_of_ble_eq_true rfl) (Nat.le_of_ble_eq_true rfl) (hst := rfl) (fun b262r M263 n264 b262 => ?_)
        obtain ⟨T265, J266, rfl, R269, f270⟩ := b262
        have I267 := I237.call J266 (tm_sub (by decide)) (Or.inl rfl)
        have t271 := J266.up t244
        have z272 := (rv_c I237 J266 (I237.up h_o0) (k := 15) rfl).trans z245
        have z273 := (rv_c I237 J266 (I237.up h_o0) (k := 16) rfl).trans z246
        have z274 := (rv_c I237 J266 (I237.up h_o0) (k := 17) rfl).trans z247
        have z275 := (rv_c I237 J266 (I237.up h_o0) (k := 22) rfl).trans z249
        have z276 := (rv_c I237 J266 (I237.up h_o0) (k := 24) rfl).trans z250
        have z277 := (ra_call I237 J266 (I237.up h_o0) (k := 5) rfl rfl rfl 44).trans z251
        have z278 := (ra_call I237 J266 (I237.up h_o0) (k := 6) rfl rfl rfl 44).trans z252
        have E279 : rE M0 M263 o0 0 0 := E253.fails (rE_hv I237 J266 (I237.up h_o0) 15 18 (by decide)) (rE_ha I237 J266 (I237.up h_o0) (by decide)) f270 0 0
        have K280 : rK M0 M263 o0 ((880 + ra M0 o0 6 44).toNat) := K254.same (sA_c I237 J266 (I237.up h_o0) (by decide))
        have K281 : nN M263 o0 := K255.same (sA_c I237 J266 (I237.up h_o0) (by decide)) (sF_c I237 J266 (I237.up h_o0) (by decide))
        clear z245 z246 z247 z249 z250 z251 z252
        have q282 := J266.keep t244 (by decide) q257
        have t283 := J266.up t_a258
        refine mv_aload_n d_TrustDeskModel_readClause_70 rfl rfl ?_
        obtain ⟨_, b284, -⟩ := I267.1 _ _ t271
        refine mv_callV (kc1 := 0) (ks1 := 0) (kc' := 0) (ks' := 0) (As := []) (st9 := [.ref o0]) d_TrustDeskModel_readClause_71 lV_TrustDeskModel_230 b284 rfl (mj_enter (by decide) (Nat.le_of_ble_eq_true rfl) ?_) rfl (Nat.le_of_ble_eq_true rfl) (Nat.le_of_ble_eq_true rfl) (Nat.le_of_ble_eq_true rfl) (hst := rfl) (fun _ _ _ h => h)
        refine mv_aload_n d_TrustDeskModel_isWell_0 rfl rfl ?_
        obtain ⟨v286, q285⟩ := tm_atI I267 t271 (k := 19) rfl
        refine tr_getK q285 d_TrustDeskModel_isWell_1 f_TrustDeskModel_224_13 ?_
        have := R269.f (k := 19) q285 rfl
        have := tm_rv q285
        refine mv_if_neZ (tgt := 11) (a := v286.toInt) d_TrustDeskModel_isWell_4 (by decide) rfl (fun b287 => ?_) (fun b287 => ?_)
        · refine mv_iconst (v := 0) d_TrustDeskModel_isWell_11 (by decide) ?_
          refine mv_iret d_TrustDeskModel_isWell_12 rfl (by decide) ?_
          refine mv_if_ne_f (tgt := 78) d_TrustDeskModel_readClause_74 (by decide) (by decide) ?_
          exact mv_vret d_TrustDeskModel_readClause_77 rfl ⟨_, I267, rfl, R269, (rW.of E279.1 (fun h9 => absurd h9 (by have := R269.1 15 _ _ rfl; have := R269.1 16 _ _ rfl; have := R269.1 19 _ _ rfl; have := E279.f yS; omega)) (fun h9 => absurd h9 (by have := R269.1 15 _ _ rfl; have := R269.1 16 _ _ rfl; have := R269.1 19 _ _ rfl; have := E279.f yS; omega))), (rO.of E279 K280 (by have := yR.2 6 _ _ rfl 44; omega)), (by have := R269.1 15 _ _ rfl; have := R269.1 16 _ _ rfl; have := R269.1 19 _ _ rfl; have := E279.f yS; omega), (by have := R269.1 15 _ _ rfl; have := R269.1 16 _ _ rfl; have := R269.1 19 _ _ rfl; have := E279.f yS; omega), (fun _ h9 => absurd h9 (by have := R269.1 15 _ _ rfl; have := R269.1 16 _ _ rfl; have := R269.1 19 _ _ rfl; have := E279.f yS; omega)), (by have := R269.1 15 _ _ rfl; have := R269.1 16 _ _ rfl; have := R269.1 19 _ _ rfl; have := E279.f yS; omega)⟩
        · exfalso
          have := R269.1 15 _ _ rfl; have := R269.1 16 _ _ rfl; have := R269.1 19 _ _ rfl; have := E279.f yS; omega
      · refine mv_iload_n d_TrustDeskModel_readClause_52 rfl rfl ?_
        have := mz_hi v10
        refine mv_if_eqZ (tgt := 70) (a := v10.toInt) d_TrustDeskModel_readClause_53 (by decide) rfl (fun b288 => ?_) (fun b288 => absurd b288 (by omega))
        refine mv_aload_n d_TrustDeskModel_readClause_70 rfl rfl ?_
        obtain ⟨_, b289, -⟩ := I237.1 _ _ t244
        refine mv_callV (kc1 := 0) (ks1 := 0) (kc' := 0) (ks' := 0) (As := []) (st9 := [.ref o0]) d_TrustDeskModel_readClause_71 lV_TrustDeskModel_230 b289 rfl (mj_enter (by decide) (Nat.le_of_ble_eq_true rfl) ?_) rfl (Nat.le_of_ble_eq_true rfl) (Nat.le_of_ble_eq_true rfl) (Nat.le_of_ble_eq_true rfl) (hst := rfl) (fun _ _ _ h => h)
        refine mv_aload_n d_TrustDeskModel_isWell_0 rfl rfl ?_
        obtain ⟨v291, q290⟩ := tm_atI I237 t244 (k := 19) rfl
        refine tr_getK q290 d_TrustDeskModel_isWell_1 f_TrustDeskModel_224_13 ?_
        have := R242.f (k := 19) q290 rfl
        have := (tm_rv q290).symm.trans z248
        have := tm_rv q290
        have := mz_hi v291
        refine mv_if_neZ (tgt := 11) (a := v291.toInt) d_TrustDeskModel_isWell_4 (by decide) rfl (fun b292 => ?_) (fun b292 => ?_)
        · refine mv_iconst (v := 0) d_TrustDeskModel_isWell_11 (by decide) ?_
          refine mv_iret d_TrustDeskModel_isWell_12 rfl (by decide) ?_
          refine mv_if_ne_f (tgt := 78) d_TrustDeskModel_readClause_74 (by decide) (by decide) ?_
          exact mv_vret d_TrustDeskModel_readClause_77 rfl ⟨_, I237, rfl, R242, (rW.of E253.1 (fun w9 => (by have := R242.1 15 _ _ rfl; have := R242.1 16 _ _ rfl; have := R242.1 19 _ _ rfl; have := E253.f yS; omega)) (fun w9 => rG.step yG yR E253 w9 K254 (by have := yR.2 6 _ _ rfl 44; omega) (by have := R242.1 15 _ _ rfl; have := R242.1 16 _ _ rfl; have := R242.1 19 _ _ rfl; have := E253.f yS; omega) (by have := R242.1 15 _ _ rfl; have := R242.1 16 _ _ rfl; have := R242.1 19 _ _ rfl; have := E253.f yS; omega) (fun h9 => by exfalso; have := R242.1 15 _ _ rfl; have := R242.1 16 _ _ rfl; have := R242.1 19 _ _ rfl; have := E253.f yS; omega) (fun h9 => (by have := R242.1 15 _ _ rfl; have := R242.1 16 _ _ rfl; have := R242.1 19 _ _ rfl; have := E253.f yS; omega)) (by have := R242.1 15 _ _ rfl; have := R242.1 16 _ _ rfl; have := R242.1 19 _ _ rfl; have := E253.f yS; omega) K255)), (rO.of E253 K254 (by have := yR.2 6 _ _ rfl 44; omega)), (by have := R242.1 15 _ _ rfl; have := R242.1 16 _ _ rfl; have := R242.1 19 _ _ rfl; have := E253.f yS; omega), (by have := R242.1 15 _ _ rfl; have := R242.1 16 _ _ rfl; have := R242.1 19 _ _ rfl; have := E253.f yS; omega), (fun h9 _ => absurd h9 (f16 (by have := R242.1 15 _ _ rfl; have := R242.1 16 _ _ rfl; have := R242.1 19 _ _ rfl; have := E253.f yS; omega))), (by have := R242.1 15 _ _ rfl; have := R242.1 16 _ _ rfl; have := R242.1 19 _ _ rfl; have := E253.f yS; omega)⟩
        · refine mv_iconst (v := 1) d_TrustDeskModel_isWell_7 (by decide) ?_
          refine mv_goto (tgt := 12) d_TrustDeskModel_isWell_8 (by decide) ?_
          refine mv_iret d_TrustDeskModel_isWell_12 rfl (by decide) ?_
          refine mv_if_ne_t (tgt := 78) d_TrustDeskModel_readClause_74 (by decide) (by decide) ?_
          refine mv_aload_n d_TrustDeskModel_readClause_78 rfl rfl ?_
          refine mv_ldcSw (id := 43) (tx := "mark") d_TrustDeskModel_readClause_79 (List.mem_of_getElem? (i := 33) rfl) ?_
          obtain ⟨_, b299, -⟩ := I237.1 _ _ t244
          refine mv_callV (kc' := 0) (ks' := 0) (As := [.ref 43]) (st9 := [.ref 43, .ref o0]) d_TrustDeskModel_readClause_82 lV_TrustDeskModel_244 b299 rfl (tc_TrustDeskModel_isWord_s1_43_x (d := (d + 21)) (x9 := x9) (o0 := o0) t244 R242 I237.start) rfl (Nat.le_of_ble_eq_true rfl) (Nat.le_of_ble_eq_true rfl) (Nat.le_of_ble_eq_true rfl) (hst := rfl) (fun b293r M294 n295 b293 => ?_)
          obtain ⟨T296, J297, v300, rfl, b301, b302, R303, f304⟩ := b293
          have I298 := I237.call J297 (tm_sub (by decide)) (Or.inl rfl)
          have t305 := J297.up t244
          have z306 := (rv_c I237 J297 (I237.up h_o0) (k := 15) rfl).trans z245
          have z307 := (rv_c I237 J297 (I237.up h_o0) (k := 16) rfl).trans z246
          have z308 := (rv_c I237 J297 (I237.up h_o0) (k := 17) rfl).trans z247
          have z309 := (rv_c I237 J297 (I237.up h_o0) (k := 19) rfl).trans z248
          have z310 := (rv_c I237 J297 (I237.up h_o0) (k := 22) rfl).trans z249
          have z311 := (rv_c I237 J297 (I237.up h_o0) (k := 24) rfl).trans z250
          have z312 := (ra_call I237 J297 (I237.up h_o0) (k := 5) rfl rfl rfl 44).trans z251
          have z313 := (ra_call I237 J297 (I237.up h_o0) (k := 6) rfl rfl rfl 44).trans z252
          have E314 : rE M0 M294 o0 0 0 := E253.same (rE_hv I237 J297 (I237.up h_o0) 15 19 (by decide)) (rE_ha I237 J297 (I237.up h_o0) (by decide))
          have K315 : rK M0 M294 o0 ((880 + ra M0 o0 6 44).toNat) := K254.same (sA_c I237 J297 (I237.up h_o0) (by decide))
          have K316 : nN M294 o0 := K255.same (sA_c I237 J297 (I237.up h_o0) (by decide)) (sF_c I237 J297 (I237.up h_o0) (by decide))
          clear z245 z246 z248 z249 z250 z251 z252
          have q317 := J297.keep t244 (by decide) q257
          have t318 := J297.up t_a258
          have q319 := J297.keep t244 (by decide) q290
          refine mv_istore_n (lv' := [(2, .int v300), (1, .int v10), (0, .ref o0)]) d_TrustDeskModel_readClause_85 rfl (by decide) rfl ?_
          refine mv_aload_n d_TrustDeskModel_readClause_86 rfl rfl ?_
          refine mv_iload_n d_TrustDeskModel_readClause_87 rfl rfl ?_
          have := mz_hi v10
          refine mv_if_eqZ (tgt := 96) (a := v10.toInt) d_TrustDeskModel_readClause_88 (by decide) rfl (fun b320 => ?_) (fun b320 => absurd b320 (by omega))
          refine mv_iload_n d_TrustDeskModel_readClause_96 rfl rfl ?_
          have := mz_hi v300
          refine mv_if_eqZ (tgt := 105) (a := v300.toInt) d_TrustDeskModel_readClause_97 (by decide) rfl (fun b321 => ?_) (fun b321 => ?_)
          · refine mv_bipush (v := 9) d_TrustDeskModel_readClause_105 (by decide) ?_
            obtain ⟨_, b328, -⟩ := I298.1 _ _ t305
            have : (9 : Int32).toInt = 9 := by decide
            refine mv_callV (kc' := 0) (ks' := 0) (As := [.int 9]) (st9 := [.int 9, .ref o0]) d_TrustDeskModel_readClause_107 lV_TrustDeskModel_342 b328 rfl (tc_TrustDeskModel_begin_x (d := (d + 23)) (x9 := x9) (o0 := o0) (x1 := 9) t305 R303 E314.1 (by have := R303.1 15 _ _ rfl; have := R303.1 16 _ _ rfl; have := R303.1 19 _ _ rfl; have := E314.f yS; omega) (by have := R303.1 15 _ _ rfl; have := R303.1 16 _ _ rfl; have := R303.1 19 _ _ rfl; have := E314.f yS; omega) (by have := R303.1 15 _ _ rfl; have := R303.1 16 _ _ rfl; have := R303.1 19 _ _ rfl; have := E314.f yS; omega) (by have := R303.1 15 _ _ rfl; have := R303.1 16 _ _ rfl; have := R303.1 19 _ _ rfl; have := E314.f yS; omega) I298.start) rfl (Nat.le_of_ble_eq_true rfl) (Nat.le_of_ble_eq_true rfl) (Nat.le_of_ble_eq_true rfl) (hst := rfl) (fun b322r M323 n324 b322 => ?_)
            obtain ⟨T325, J326, v329, rfl, R330, f331, f332, f333, f334, f335, f336⟩ := b322
            have I327 := I298.call J326 (tm_sub (by decide)) (Or.inl rfl)
            have t337 := J326.up t305
            have z338 := (rv_c I298 J326 (I298.up h_o0) (k := 19) rfl).trans z309
            have z339 := (rv_c I298 J326 (I298.up h_o0) (k := 22) rfl).trans z310
            have z340 := (rv_c I298 J326 (I298.up h_o0) (k := 24) rfl).trans z311
            have z341 := (ra_call I298 J326 (I298.up h_o0) (k := 5) rfl rfl rfl 44).trans z312
            have E342 : rE M0 M323 o0 0 1 := E314.trans f331 (by decide) (yR.2 5 _ _ rfl 44).1 (by decide) (by decide)
            have := f331.w
            have := f331.w2
            have h343 : (880 + ra M294 o0 6 44).toNat = (880 + ra M0 o0 6 44).toNat := by omega
            rw [h343] at f334 f335 f336
            have K344 : rK M0 M323 o0 ((880 + ra M0 o0 6 44).toNat) := K315.trans f336
            have K345 : nN M323 o0 := K316.same (sA_c I298 J326 (I298.up h_o0) (by decide)) (sF_c I298 J326 (I298.up h_o0) (by decide))
            clear z309 z310 z311
            have q346 := J326.keep t305 (by decide) q317
            have t347 := J326.up t318
            have q348 := J326.keep t305 (by decide) q319
            refine mv_istore_n (lv' := [(3, .int v329), (2, .int v300), (1, .int v10), (0, .ref o0)]) d_TrustDeskModel_readClause_110 rfl (by decide) rfl ?_
            refine mv_iload_n d_TrustDeskModel_readClause_111 rfl rfl ?_
            have := mz_hi v10
            refine mv_if_eqZ (tgt := 123) (a := v10.toInt) d_TrustDeskModel_readClause_112 (by decide) rfl (fun b349 => ?_) (fun b349 => absurd b349 (by omega))
            refine mv_iload_n d_TrustDeskModel_readClause_123 rfl rfl ?_
            have := mz_hi v300
            refine mv_if_eqZ (tgt := 135) (a := v300.toInt) d_TrustDeskModel_readClause_124 (by decide) rfl (fun b350 => ?_) (fun b350 => absurd b350 (by omega))
            refine mv_aload_n d_TrustDeskModel_readClause_135 rfl rfl ?_
            obtain ⟨a352, q351, t_a352⟩ := tm_atR I327 t337 (k := 8) rfl
            refine tr_getK q351 d_TrustDeskModel_readClause_136 f_TrustDeskModel_29_13 ?_
            refine mv_iload_n d_TrustDeskModel_readClause_139 rfl rfl ?_
            refine mv_aload_n d_TrustDeskModel_readClause_140 rfl rfl ?_
            refine mv_iconst (v := 1) d_TrustDeskModel_readClause_141 (by decide) ?_
            refine mv_bipush (v := 7) d_TrustDeskModel_readClause_142 (by decide) ?_
            obtain ⟨_, b359, -⟩ := I327.1 _ _ t337
            have : (1 : Int32).toInt = 1 := by decide
            have : (7 : Int32).toInt = 7 := by decide
            refine mv_callV (kc' := 0) (ks' := 0) (As := [.int 1, .int 7]) (st9 := [.int 7, .int 1, .ref o0, .int v329, .ref a352]) d_TrustDeskModel_readClause_144 lV_TrustDeskModel_317 b359 rfl (tc_TrustDeskModel_number_x (d := (d + 23)) (x9 := x9) (o0 := o0) (x1 := 1) (x2 := 7) t337 R330 E342.1 (by have := R330.1 15 _ _ rfl; have := R330.1 16 _ _ rfl; have := R330.1 19 _ _ rfl; have := E342.f yS; omega) I327.start) rfl (Nat.le_of_ble_eq_true rfl) (Nat.le_of_ble_eq_true rfl) (Nat.le_of_ble_eq_true rfl) (hst := rfl) (fun b353r M354 n355 b353 => ?_)
            obtain ⟨T356, J357, v360, rfl, R361, f362, f363⟩ := b353
            have I358 := I327.call J357 (tm_sub (by decide)) (Or.inl rfl)
            have t364 := J357.up t337
            have t365 := J357.up t_a352
            have z366 := (rv_c I327 J357 (I327.up h_o0) (k := 22) rfl).trans z339
            have z367 := (rv_c I327 J357 (I327.up h_o0) (k := 24) rfl).trans z340
            have z368 := (ra_call I327 J357 (I327.up h_o0) (k := 5) rfl rfl rfl 44).trans z341
            have z369 := (ra_call I327 J357 (I327.up h_o0) (k := 6) rfl rfl rfl 44)
            have z370 := (ra_call I327 J357 (I327.up h_o0) (k := 7) rfl rfl rfl ((880 + ra M0 o0 6 44).toNat))
            have z371 := (ra_call I327 J357 (I327.up h_o0) (k := 10) rfl rfl rfl ((880 + ra M0 o0 6 44).toNat))
            have E372 : rE M0 M354 o0 0 2 := E342.trans f362 (by decide) (yR.2 5 _ _ rfl 44).1 (by decide) (by decide)
            have := f362.w
            have := f362.w2
            have K373 : rK M0 M354 o0 ((880 + ra M0 o0 6 44).toNat) := K344.same (sA_c I327 J357 (I327.up h_o0) (by decide))
            have K374 : nN M354 o0 := K345.same (sA_c I327 J357 (I327.up h_o0) (by decide)) (sF_c I327 J357 (I327.up h_o0) (by decide))
            clear z339 z340 z341
            have q375 := J357.keep t337 (by decide) q346
            have t376 := J357.up t347
            have q377 := J357.keep t337 (by decide) q351
            refine tr_iastR (k := 8) I358 R361 (I358.up h_o0) q377 t365 (by decide) (by decide) (fun lo hi h => by cases h; have := R361.1 15 _ _ rfl; have := R361.1 16 _ _ rfl; have := R361.1 19 _ _ rfl; have := E372.f yS; exact ⟨by show ((-1) : Int) ≤ v360.toInt; omega, by show v360.toInt ≤ (720 : Int); omega⟩) (Or.inl (by decide)) d_TrustDeskModel_readClause_147 (vp_in_iff.mpr (by have := R361.1 15 _ _ rfl; have := R361.1 16 _ _ rfl; have := R361.1 19 _ _ rfl; have := E372.f yS; omega)) (fun M378 I379 K380 R381 E382 A383 V384 => ?_)
            have z385 := (V384 15)
            have z386 := (V384 16)
            have z387 := (V384 17)
            have z388 := (V384 19)
            have z389 := (V384 22).trans z366
            have z390 := (V384 24).trans z367
            have z391 := (A383 5 (by decide) rfl 44).trans z368
            have z392 := (A383 6 (by decide) rfl 44).trans z369
            have z393 := (A383 7 (by decide) rfl ((880 + ra M0 o0 6 44).toNat)).trans z370
            have z394 := (A383 10 (by decide) rfl ((880 + ra M0 o0 6 44).toNat)).trans z371
            have E395 : rE M0 M378 o0 0 2 := E372.same (fun k _ _ => V384 k) (fun k h1 h2 => A383 k (by omega) (by rcases (show k = 4 ∨ k = 5 by omega) with rfl | rfl <;> rfl))
            have h396 : (880 + ra M0 o0 6 44).toNat = v329.toNatClampNeg := by have := mz_nat9 (i := v329) (by have := R361.1 15 _ _ rfl; have := R361.1 16 _ _ rfl; have := R361.1 19 _ _ rfl; have := E372.f yS; omega); have := R361.1 15 _ _ rfl; have := R361.1 16 _ _ rfl; have := R361.1 19 _ _ rfl; have := E372.f yS; omega
            have z397 : ra M378 o0 8 ((880 + ra M0 o0 6 44).toNat) = v360.toInt := (E382 _).trans (if_pos h396)
            have K398 : rK M0 M378 o0 ((880 + ra M0 o0 6 44).toNat) := K373.st A383 E382 (by have := mz_nat9 (i := v329) (by have := R361.1 15 _ _ rfl; have := R361.1 16 _ _ rfl; have := R361.1 19 _ _ rfl; have := E372.f yS; omega); have := R361.1 15 _ _ rfl; have := R361.1 16 _ _ rfl; have := R361.1 19 _ _ rfl; have := E372.f yS; omega)
            have K399 : nN M378 o0 := K374.same (sA_a A383 (by decide)) (sF_a V384)
            clear z366 z367 z368 z369 z370 z371
            refine mv_aload_n d_TrustDeskModel_readClause_148 rfl rfl ?_
            obtain ⟨a401, q400, t_a401⟩ := tm_atR I379 t364 (k := 9) rfl
            refine tr_getK q400 d_TrustDeskModel_readClause_149 f_TrustDeskModel_32_13 ?_
            refine mv_iload_n d_TrustDeskModel_readClause_152 rfl rfl ?_
            refine mv_aload_n d_TrustDeskModel_readClause_153 rfl rfl ?_
            refine mv_iconst (v := 1) d_TrustDeskModel_readClause_154 (by decide) ?_
            refine mv_aload_n d_TrustDeskModel_readClause_155 rfl rfl ?_
            refine tr_getK (k := 8) (K380 _ 13 8 _ q377) d_TrustDeskModel_readClause_156 f_TrustDeskModel_29_13 ?_
            refine mv_iload_n d_TrustDeskModel_readClause_159 rfl rfl ?_
            refine tr_ialdR (o := o0) (k := 8) I379 (K380 _ 13 8 _ q377) t365 (by decide) d_TrustDeskModel_readClause_160 (vp_in_iff.mpr (by have := R381.1 15 _ _ rfl; have := R381.1 16 _ _ rfl; have := R381.1 19 _ _ rfl; have := E395.f yS; omega)) (fun v402 e403 => ?_)
            have := R381.a (k := 8) rfl (v329 : Int32).toNatClampNeg
            have h404 : (880 + ra M0 o0 6 44).toNat = v329.toNatClampNeg := by have := mz_nat9 (i := v329) (by have := R381.1 15 _ _ rfl; have := R381.1 16 _ _ rfl; have := R381.1 19 _ _ rfl; have := E395.f yS; omega); have := R381.1 15 _ _ rfl; have := R381.1 16 _ _ rfl; have := R381.1 19 _ _ rfl; have := E395.f yS; omega
            have z405 : v402.toInt = ra M378 o0 8 ((880 + ra M0 o0 6 44).toNat) := by rw [e403, h404]
            have : v402.toInt = _ := Eq.trans z405 z397
            obtain ⟨_, b412, -⟩ := I379.1 _ _ t364
            have : (1 : Int32).toInt = 1 := by decide
            refine mv_callV (kc' := 0) (ks' := 0) (As := [.int 1, .int v402]) (st9 := [.int v402, .int 1, .ref o0, .int v329, .ref a401]) d_TrustDeskModel_readClause_161 lV_TrustDeskModel_317 b412 rfl (tc_TrustDeskModel_number_x (d := (d + 23)) (x9 := x9) (o0 := o0) (x1 := 1) (x2 := v402) t364 R381 E395.1 (by have := R381.1 15 _ _ rfl; have := R381.1 16 _ _ rfl; have := R381.1 19 _ _ rfl; have := E395.f yS; omega) I379.start) rfl (Nat.le_of_ble_eq_true rfl) (Nat.le_of_ble_eq_true rfl) (Nat.le_of_ble_eq_true rfl) (hst := rfl) (fun b406r M407 n408 b406 => ?_)
            obtain ⟨T409, J410, v413, rfl, R414, f415, f416⟩ := b406
            have I411 := I379.call J410 (tm_sub (by decide)) (Or.inl rfl)
            have t417 := J410.up t364
            have t418 := J410.up t_a401
            have z419 := (rv_c I379 J410 (I379.up h_o0) (k := 22) rfl).trans z389
            have z420 := (rv_c I379 J410 (I379.up h_o0) (k := 24) rfl).trans z390
            have z421 := (ra_call I379 J410 (I379.up h_o0) (k := 5) rfl rfl rfl 44).trans z391
            have z422 := (ra_call I379 J410 (I379.up h_o0) (k := 6) rfl rfl rfl 44).trans z392
            have z423 := (ra_call I379 J410 (I379.up h_o0) (k := 7) rfl rfl rfl ((880 + ra M0 o0 6 44).toNat)).trans z393
            have z424 := (ra_call I379 J410 (I379.up h_o0) (k := 10) rfl rfl rfl ((880 + ra M0 o0 6 44).toNat)).trans z394
            have z425 := (ra_call I379 J410 (I379.up h_o0) (k := 8) rfl rfl rfl ((880 + ra M0 o0 6 44).toNat)).trans z397
            have E426 : rE M0 M407 o0 0 3 := E395.trans f415 (by decide) (yR.2 5 _ _ rfl 44).1 (by decide) (by decide)
            have := f415.w
            have := f415.w2
            have K427 : rK M0 M407 o0 ((880 + ra M0 o0 6 44).toNat) := K398.same (sA_c I379 J410 (I379.up h_o0) (by decide))
            have K428 : nN M407 o0 := K399.same (sA_c I379 J410 (I379.up h_o0) (by decide)) (sF_c I379 J410 (I379.up h_o0) (by decide))
            clear z389 z390 z391 z392 z393 z394 z397
            have q429 := J410.keep t364 (by decide) (K380 _ 13 6 _ q375)
            have t430 := J410.up t376
            have q431 := J410.keep t364 (by decide) (K380 _ 13 8 _ q377)
            have t432 := J410.up t365
            have q433 := J410.keep t364 (by decide) q400
            refine tr_iastR (k := 9) I411 R414 (I411.up h_o0) q433 t418 (by decide) (by decide) (fun lo hi h => by cases h) (Or.inl (by decide)) d_TrustDeskModel_readClause_164 (vp_in_iff.mpr (by have := R414.1 15 _ _ rfl; have := R414.1 16 _ _ rfl; have := R414.1 19 _ _ rfl; have := E426.f yS; omega)) (fun M434 I435 K436 R437 E438 A439 V440 => ?_)
            have z441 := (V440 15)
            have z442 := (V440 16)
            have z443 := (V440 17)
            have z444 := (V440 19)
            have z445 := (V440 22).trans z419
            have z446 := (V440 24).trans z420
            have z447 := (A439 5 (by decide) rfl 44).trans z421
            have z448 := (A439 6 (by decide) rfl 44).trans z422
            have z449 := (A439 7 (by decide) rfl ((880 + ra M0 o0 6 44).toNat)).trans z423
            have z450 := (A439 10 (by decide) rfl ((880 + ra M0 o0 6 44).toNat)).trans z424
            have z451 := (A439 8 (by decide) rfl ((880 + ra M0 o0 6 44).toNat)).trans z425
            have E452 : rE M0 M434 o0 0 3 := E426.same (fun k _ _ => V440 k) (fun k h1 h2 => A439 k (by omega) (by rcases (show k = 4 ∨ k = 5 by omega) with rfl | rfl <;> rfl))
            have K453 : rK M0 M434 o0 ((880 + ra M0 o0 6 44).toNat) := K427.same (sA_a A439 (by decide))
            have K454 : nN M434 o0 := K428.same (sA_a A439 (by decide)) (sF_a V440)
            clear z419 z420 z421 z422 z423 z424 z425
            refine mv_aload_n d_TrustDeskModel_readClause_165 rfl rfl ?_
            refine mv_bipush (v := 59) d_TrustDeskModel_readClause_166 (by decide) ?_
            obtain ⟨_, b461, -⟩ := I435.1 _ _ t417
            have : (59 : Int32).toInt = 59 := by decide
            refine mv_callV (kc' := 0) (ks' := 0) (As := [.int 59]) (st9 := [.int 59, .ref o0]) d_TrustDeskModel_readClause_168 lV_TrustDeskModel_291 b461 rfl (tc_TrustDeskModel_wantSign_x (d := (d + 23)) (x9 := x9) (o0 := o0) (x1 := 59) t417 R437 E452.1 (by have := R437.1 15 _ _ rfl; have := R437.1 16 _ _ rfl; have := R437.1 19 _ _ rfl; have := E452.f yS; omega) I435.start) rfl (Nat.le_of_ble_eq_true rfl) (Nat.le_of_ble_eq_true rfl) (Nat.le_of_ble_eq_true rfl) (hst := rfl) (fun b455r M456 n457 b455 => ?_)
            obtain ⟨T458, J459, rfl, R462, f463⟩ := b455
            have I460 := I435.call J459 (tm_sub (by decide)) (Or.inl rfl)
            have t464 := J459.up t417
            have z465 := (rv_c I435 J459 (I435.up h_o0) (k := 22) rfl).trans z445
            have z466 := (rv_c I435 J459 (I435.up h_o0) (k := 24) rfl).trans z446
            have z467 := (ra_call I435 J459 (I435.up h_o0) (k := 5) rfl rfl rfl 44).trans z447
            have z468 := (ra_call I435 J459 (I435.up h_o0) (k := 6) rfl rfl rfl 44).trans z448
            have z469 := (ra_call I435 J459 (I435.up h_o0) (k := 7) rfl rfl rfl ((880 + ra M0 o0 6 44).toNat)).trans z449
            have z470 := (ra_call I435 J459 (I435.up h_o0) (k := 10) rfl rfl rfl ((880 + ra M0 o0 6 44).toNat)).trans z450
            have z471 := (ra_call I435 J459 (I435.up h_o0) (k := 8) rfl rfl rfl ((880 + ra M0 o0 6 44).toNat)).trans z451
            have E472 : rE M0 M456 o0 0 4 := E452.trans f463 (by decide) (yR.2 5 _ _ rfl 44).1 (by decide) (by decide)
            have := f463.w
            have := f463.w2
            have K473 : rK M0 M456 o0 ((880 + ra M0 o0 6 44).toNat) := K453.same (sA_c I435 J459 (I435.up h_o0) (by decide))
            have K474 : nN M456 o0 := K454.same (sA_c I435 J459 (I435.up h_o0) (by decide)) (sF_c I435 J459 (I435.up h_o0) (by decide))
            clear z445 z446 z447 z448 z449 z450 z451
            have q475 := J459.keep t417 (by decide) (K436 _ 13 6 _ q429)
            have t476 := J459.up t430
            have q477 := J459.keep t417 (by decide) (K436 _ 13 8 _ q431)
            have t478 := J459.up t432
            have q479 := J459.keep t417 (by decide) (K436 _ 13 9 _ q433)
            have t480 := J459.up t418
            refine mv_aload_n d_TrustDeskModel_readClause_171 rfl rfl ?_
            obtain ⟨a482, q481, t_a482⟩ := tm_atR I460 t464 (k := 12) rfl
            refine tr_getK q481 d_TrustDeskModel_readClause_172 f_TrustDeskModel_41_13 ?_
            refine mv_iload_n d_TrustDeskModel_readClause_175 rfl rfl ?_
            refine mv_aload_n d_TrustDeskModel_readClause_176 rfl rfl ?_
            obtain ⟨a484, q483, t_a484⟩ := tm_atR I460 t464 (k := 5) rfl
            refine tr_getK q483 d_TrustDeskModel_readClause_177 f_TrustDeskModel_20_13 ?_
            refine mv_bipush (v := 44) d_TrustDeskModel_readClause_180 (by decide) ?_
            refine tr_ialdR (o := o0) (k := 5) I460 q483 t_a484 (by decide) d_TrustDeskModel_readClause_182 (by unfold vp_in; decide) (fun v485 e486 => ?_)
            have := R462.a (k := 5) rfl (44 : Int32).toNatClampNeg
            have : v485.toInt = ra M456 o0 5 44 := e486
            have : v485.toInt = _ := Eq.trans e486 z467
            refine tr_iastR (k := 12) I460 R462 (I460.up h_o0) q481 t_a482 (by decide) (by decide) (fun lo hi h => by cases h; have := R462.1 15 _ _ rfl; have := R462.1 16 _ _ rfl; have := R462.1 19 _ _ rfl; have := E472.f yS; exact ⟨by show (0 : Int) ≤ v485.toInt; omega, by show v485.toInt ≤ (400 : Int); omega⟩) (Or.inl (by decide)) d_TrustDeskModel_readClause_183 (vp_in_iff.mpr (by have := R462.1 15 _ _ rfl; have := R462.1 16 _ _ rfl; have := R462.1 19 _ _ rfl; have := E472.f yS; omega)) (fun M487 I488 K489 R490 E491 A492 V493 => ?_)
            have z494 := (V493 15)
            have z495 := (V493 16)
            have z496 := (V493 17)
            have z497 := (V493 19)
            have z498 := (V493 22).trans z465
            have z499 := (V493 24).trans z466
            have z500 := (A492 5 (by decide) rfl 44).trans z467
            have z501 := (A492 6 (by decide) rfl 44).trans z468
            have z502 := (A492 7 (by decide) rfl ((880 + ra M0 o0 6 44).toNat)).trans z469
            have z503 := (A492 10 (by decide) rfl ((880 + ra M0 o0 6 44).toNat)).trans z470
            have z504 := (A492 8 (by decide) rfl ((880 + ra M0 o0 6 44).toNat)).trans z471
            have E505 : rE M0 M487 o0 0 4 := E472.same (fun k _ _ => V493 k) (fun k h1 h2 => A492 k (by omega) (by rcases (show k = 4 ∨ k = 5 by omega) with rfl | rfl <;> rfl))
            have h506 : (880 + ra M0 o0 6 44).toNat = v329.toNatClampNeg := by have := mz_nat9 (i := v329) (by have := R462.1 15 _ _ rfl; have := R462.1 16 _ _ rfl; have := R462.1 19 _ _ rfl; have := E472.f yS; omega); have := R462.1 15 _ _ rfl; have := R462.1 16 _ _ rfl; have := R462.1 19 _ _ rfl; have := E472.f yS; omega
            have z507 : ra M487 o0 12 ((880 + ra M0 o0 6 44).toNat) = v485.toInt := (E491 _).trans (if_pos h506)
            have K508 : rK M0 M487 o0 ((880 + ra M0 o0 6 44).toNat) := K473.st A492 E491 (by have := mz_nat9 (i := v329) (by have := R462.1 15 _ _ rfl; have := R462.1 16 _ _ rfl; have := R462.1 19 _ _ rfl; have := E472.f yS; omega); have := R462.1 15 _ _ rfl; have := R462.1 16 _ _ rfl; have := R462.1 19 _ _ rfl; have := E472.f yS; omega)
            have K509 : nN M487 o0 := K474.same (sA_a A492 (by decide)) (sF_a V493)
            clear z465 z466 z467 z468 z469 z470 z471
            exact mv_vret d_TrustDeskModel_readClause_184 rfl ⟨_, I488, rfl, R490, (rW.of E505.1 (fun w9 => (by have := R490.1 15 _ _ rfl; have := R490.1 16 _ _ rfl; have := R490.1 19 _ _ rfl; have := E505.f yS; omega)) (fun w9 => rG.step yG yR E505 w9 K508 (by have := yR.2 6 _ _ rfl 44; omega) (by have := R490.1 15 _ _ rfl; have := R490.1 16 _ _ rfl; have := R490.1 19 _ _ rfl; have := E505.f yS; omega) (by have := R490.1 15 _ _ rfl; have := R490.1 16 _ _ rfl; have := R490.1 19 _ _ rfl; have := E505.f yS; omega) (fun h9 => by exfalso; have := R490.1 15 _ _ rfl; have := R490.1 16 _ _ rfl; have := R490.1 19 _ _ rfl; have := E505.f yS; omega) (fun h9 => (by have := R490.1 15 _ _ rfl; have := R490.1 16 _ _ rfl; have := R490.1 19 _ _ rfl; have := E505.f yS; omega)) (by have := R490.1 15 _ _ rfl; have := R490.1 16 _ _ rfl; have := R490.1 19 _ _ rfl; have := E505.f yS; omega) K509)), (rO.of E505 K508 (by have := yR.2 6 _ _ rfl 44; omega)), (by have := R490.1 15 _ _ rfl; have := R490.1 16 _ _ rfl; have := R490.1 19 _ _ rfl; have := E505.f yS; omega), (by have := R490.1 15 _ _ rfl; have := R490.1 16 _ _ rfl; have := R490.1 19 _ _ rfl; have := E505.f yS; omega), (fun h9 _ => absurd h9 (f16 (by have := R490.1 15 _ _ rfl; have := R490.1 16 _ _ rfl; have := R490.1 19 _ _ rfl; have := E505.f yS; omega))), (by have := R490.1 15 _ _ rfl; have := R490.1 16 _ _ rfl; have := R490.1 19 _ _ rfl; have := E505.f yS; omega)⟩
          · refine mv_bipush (v := 7) d_TrustDeskModel_readClause_100 (by decide) ?_
            refine mv_goto (tgt := 107) d_TrustDeskModel_readClause_102 (by decide) ?_
            obtain ⟨_, b516, -⟩ := I298.1 _ _ t305
            have : (7 : Int32).toInt = 7 := by decide
            refine mv_callV (kc' := 0) (ks' := 0) (As := [.int 7]) (st9 := [.int 7, .ref o0]) d_TrustDeskModel_readClause_107 lV_TrustDeskModel_342 b516 rfl (tc_TrustDeskModel_begin_x (d := (d + 23)) (x9 := x9) (o0 := o0) (x1 := 7) t305 R303 E314.1 (by have := R303.1 15 _ _ rfl; have := R303.1 16 _ _ rfl; have := R303.1 19 _ _ rfl; have := E314.f yS; omega) (by have := R303.1 15 _ _ rfl; have := R303.1 16 _ _ rfl; have := R303.1 19 _ _ rfl; have := E314.f yS; omega) (by have := R303.1 15 _ _ rfl; have := R303.1 16 _ _ rfl; have := R303.1 19 _ _ rfl; have := E314.f yS; omega) (by have := R303.1 15 _ _ rfl; have := R303.1 16 _ _ rfl; have := R303.1 19 _ _ rfl; have := E314.f yS; omega) I298.start) rfl (Nat.le_of_ble_eq_true rfl) (Nat.le_of_ble_eq_true rfl) (Nat.le_of_ble_eq_true rfl) (hst := rfl) (fun b510r M511 n512 b510 => ?_)
            obtain ⟨T513, J514, v517, rfl, R518, f519, f520, f521, f522, f523, f524⟩ := b510
            have I515 := I298.call J514 (tm_sub (by decide)) (Or.inl rfl)
            have t525 := J514.up t305
            have z526 := (rv_c I298 J514 (I298.up h_o0) (k := 19) rfl).trans z309
            have z527 := (rv_c I298 J514 (I298.up h_o0) (k := 22) rfl).trans z310
            have z528 := (rv_c I298 J514 (I298.up h_o0) (k := 24) rfl).trans z311
            have z529 := (ra_call I298 J514 (I298.up h_o0) (k := 5) rfl rfl rfl 44).trans z312
            have E530 : rE M0 M511 o0 0 1 := E314.trans f519 (by decide) (yR.2 5 _ _ rfl 44).1 (by decide) (by decide)
            have := f519.w
            have := f519.w2
            have h531 : (880 + ra M294 o0 6 44).toNat = (880 + ra M0 o0 6 44).toNat := by omega
            rw [h531] at f522 f523 f524
            have K532 : rK M0 M511 o0 ((880 + ra M0 o0 6 44).toNat) := K315.trans f524
            have K533 : nN M511 o0 := K316.same (sA_c I298 J514 (I298.up h_o0) (by decide)) (sF_c I298 J514 (I298.up h_o0) (by decide))
            clear z309 z310 z311
            have q534 := J514.keep t305 (by decide) q317
            have t535 := J514.up t318
            have q536 := J514.keep t305 (by decide) q319
            refine mv_istore_n (lv' := [(3, .int v517), (2, .int v300), (1, .int v10), (0, .ref o0)]) d_TrustDeskModel_readClause_110 rfl (by decide) rfl ?_
            refine mv_iload_n d_TrustDeskModel_readClause_111 rfl rfl ?_
            have := mz_hi v10
            refine mv_if_eqZ (tgt := 123) (a := v10.toInt) d_TrustDeskModel_readClause_112 (by decide) rfl (fun b537 => ?_) (fun b537 => absurd b537 (by omega))
            refine mv_iload_n d_TrustDeskModel_readClause_123 rfl rfl ?_
            have := mz_hi v300
            refine mv_if_eqZ (tgt := 135) (a := v300.toInt) d_TrustDeskModel_readClause_124 (by decide) rfl (fun b538 => absurd b538 (by omega)) (fun b538 => ?_)
            refine mv_aload_n d_TrustDeskModel_readClause_127 rfl rfl ?_
            refine mv_iload_n d_TrustDeskModel_readClause_128 rfl rfl ?_
            obtain ⟨_, b545, -⟩ := I515.1 _ _ t525
            refine mv_callV (kc' := 0) (ks' := 0) (As := [.int v517]) (st9 := [.int v517, .ref o0]) d_TrustDeskModel_readClause_129 lV_TrustDeskModel_348 b545 rfl (tc_TrustDeskModel_readMarks_x (d := (d + 22)) (x9 := x9) (o0 := o0) (x1 := v517) t525 R518 E530.1 (by have := R518.1 15 _ _ rfl; have := R518.1 16 _ _ rfl; have := R518.1 19 _ _ rfl; have := E530.f yS; omega) (by have := R518.1 15 _ _ rfl; have := R518.1 16 _ _ rfl; have := R518.1 19 _ _ rfl; have := E530.f yS; omega) I515.start) rfl (Nat.le_of_ble_eq_true rfl) (Nat.le_of_ble_eq_true rfl) (Nat.le_of_ble_eq_true rfl) (hst := rfl) (fun b539r M540 n541 b539 => ?_)
            obtain ⟨T542, J543, rfl, R546, f547, f548, f549⟩ := b539
            have I544 := I515.call J543 (tm_sub (by decide)) (Or.inl rfl)
            have t550 := J543.up t525
            have z551 := (rv_c I515 J543 (I515.up h_o0) (k := 22) rfl).trans z527
            have z552 := (rv_c I515 J543 (I515.up h_o0) (k := 24) rfl).trans z528
            have z553 := (ra_call I515 J543 (I515.up h_o0) (k := 5) rfl rfl rfl 44).trans z529
            have z554 := (ra_call I515 J543 (I515.up h_o0) (k := 6) rfl rfl rfl 44)
            have z555 := (ra_call I515 J543 (I515.up h_o0) (k := 7) rfl rfl rfl ((880 + ra M0 o0 6 44).toNat))
            have z556 := (ra_call I515 J543 (I515.up h_o0) (k := 10) rfl rfl rfl ((880 + ra M0 o0 6 44).toNat))
            have E557 : rE M0 M540 o0 0 1 := E530.trans f547 (by decide) (yR.2 5 _ _ rfl 44).1 (by decide) (by decide)
            have := f547.w
            have := f547.w2
            have h558 : v517.toNatClampNeg = (880 + ra M0 o0 6 44).toNat := by have := mz_nat9 (i := v517) (by have := R518.1 15 _ _ rfl; have := R518.1 16 _ _ rfl; have := R518.1 19 _ _ rfl; have := E530.f yS; omega); have := R518.1 15 _ _ rfl; have := R518.1 16 _ _ rfl; have := R518.1 19 _ _ rfl; have := E530.f yS; omega
            rw [h558] at f548 f549
            have K559 : rK M0 M540 o0 ((880 + ra M0 o0 6 44).toNat) := K532.one8 (sA_c I515 J543 (I515.up h_o0) (by decide)) f548
            have K560 : nN M540 o0 := K533.same (sA_c I515 J543 (I515.up h_o0) (by decide)) (sF_c I515 J543 (I515.up h_o0) (by decide))
            clear z527 z528 z529
            have q561 := J543.keep t525 (by decide) q534
            have t562 := J543.up t535
            refine mv_goto (tgt := 165) d_TrustDeskModel_readClause_132 (by decide) ?_
            refine mv_aload_n d_TrustDeskModel_readClause_165 rfl rfl ?_
            refine mv_bipush (v := 59) d_TrustDeskModel_readClause_166 (by decide) ?_
            obtain ⟨_, b569, -⟩ := I544.1 _ _ t550
            have : (59 : Int32).toInt = 59 := by decide
            refine mv_callV (kc' := 0) (ks' := 0) (As := [.int 59]) (st9 := [.int 59, .ref o0]) d_TrustDeskModel_readClause_168 lV_TrustDeskModel_291 b569 rfl (tc_TrustDeskModel_wantSign_x (d := (d + 23)) (x9 := x9) (o0 := o0) (x1 := 59) t550 R546 E557.1 (by have := R546.1 15 _ _ rfl; have := R546.1 16 _ _ rfl; have := R546.1 19 _ _ rfl; have := E557.f yS; omega) I544.start) rfl (Nat.le_of_ble_eq_true rfl) (Nat.le_of_ble_eq_true rfl) (Nat.le_of_ble_eq_true rfl) (hst := rfl) (fun b563r M564 n565 b563 => ?_)
            obtain ⟨T566, J567, rfl, R570, f571⟩ := b563
            have I568 := I544.call J567 (tm_sub (by decide)) (Or.inl rfl)
            have t572 := J567.up t550
            have z573 := (rv_c I544 J567 (I544.up h_o0) (k := 22) rfl).trans z551
            have z574 := (rv_c I544 J567 (I544.up h_o0) (k := 24) rfl).trans z552
            have z575 := (ra_call I544 J567 (I544.up h_o0) (k := 5) rfl rfl rfl 44).trans z553
            have z576 := (ra_call I544 J567 (I544.up h_o0) (k := 6) rfl rfl rfl 44).trans z554
            have z577 := (ra_call I544 J567 (I544.up h_o0) (k := 7) rfl rfl rfl ((880 + ra M0 o0 6 44).toNat)).trans z555
            have z578 := (ra_call I544 J567 (I544.up h_o0) (k := 10) rfl rfl rfl ((880 + ra M0 o0 6 44).toNat)).trans z556
            have z579 := (ra_call I544 J567 (I544.up h_o0) (k := 8) rfl rfl rfl ((880 + ra M0 o0 6 44).toNat))
            have E580 : rE M0 M564 o0 0 2 := E557.trans f571 (by decide) (yR.2 5 _ _ rfl 44).1 (by decide) (by decide)
            have := f571.w
            have := f571.w2
            have K581 : rK M0 M564 o0 ((880 + ra M0 o0 6 44).toNat) := K559.same (sA_c I544 J567 (I544.up h_o0) (by decide))
            have K582 : nN M564 o0 := K560.same (sA_c I544 J567 (I544.up h_o0) (by decide)) (sF_c I544 J567 (I544.up h_o0) (by decide))
            clear z551 z552 z553 z554 z555 z556
            have q583 := J567.keep t550 (by decide) q561
            have t584 := J567.up t562
            refine mv_aload_n d_TrustDeskModel_readClause_171 rfl rfl ?_
            obtain ⟨a586, q585, t_a586⟩ := tm_atR I568 t572 (k := 12) rfl
            refine tr_getK q585 d_TrustDeskModel_readClause_172 f_TrustDeskModel_41_13 ?_
            refine mv_iload_n d_TrustDeskModel_readClause_175 rfl rfl ?_
            refine mv_aload_n d_TrustDeskModel_readClause_176 rfl rfl ?_
            obtain ⟨a588, q587, t_a588⟩ := tm_atR I568 t572 (k := 5) rfl
            refine tr_getK q587 d_TrustDeskModel_readClause_177 f_TrustDeskModel_20_13 ?_
            refine mv_bipush (v := 44) d_TrustDeskModel_readClause_180 (by decide) ?_
            refine tr_ialdR (o := o0) (k := 5) I568 q587 t_a588 (by decide) d_TrustDeskModel_readClause_182 (by unfold vp_in; decide) (fun v589 e590 => ?_)
            have := R570.a (k := 5) rfl (44 : Int32).toNatClampNeg
            have : v589.toInt = ra M564 o0 5 44 := e590
            have : v589.toInt = _ := Eq.trans e590 z575
            refine tr_iastR (k := 12) I568 R570 (I568.up h_o0) q585 t_a586 (by decide) (by decide) (fun lo hi h => by cases h; have := R570.1 15 _ _ rfl; have := R570.1 16 _ _ rfl; have := R570.1 19 _ _ rfl; have := E580.f yS; exact ⟨by show (0 : Int) ≤ v589.toInt; omega, by show v589.toInt ≤ (400 : Int); omega⟩) (Or.inl (by decide)) d_TrustDeskModel_readClause_183 (vp_in_iff.mpr (by have := R570.1 15 _ _ rfl; have := R570.1 16 _ _ rfl; have := R570.1 19 _ _ rfl; have := E580.f yS; omega)) (fun M591 I592 K593 R594 E595 A596 V597 => ?_)
            have z598 := (V597 15)
            have z599 := (V597 16)
            have z600 := (V597 17)
            have z601 := (V597 19)
            have z602 := (V597 22).trans z573
            have z603 := (V597 24).trans z574
            have z604 := (A596 5 (by decide) rfl 44).trans z575
            have z605 := (A596 6 (by decide) rfl 44).trans z576
            have z606 := (A596 7 (by decide) rfl ((880 + ra M0 o0 6 44).toNat)).trans z577
            have z607 := (A596 10 (by decide) rfl ((880 + ra M0 o0 6 44).toNat)).trans z578
            have z608 := (A596 8 (by decide) rfl ((880 + ra M0 o0 6 44).toNat)).trans z579
            have E609 : rE M0 M591 o0 0 2 := E580.same (fun k _ _ => V597 k) (fun k h1 h2 => A596 k (by omega) (by rcases (show k = 4 ∨ k = 5 by omega) with rfl | rfl <;> rfl))
            have h610 : (880 + ra M0 o0 6 44).toNat = v517.toNatClampNeg := by have := mz_nat9 (i := v517) (by have := R570.1 15 _ _ rfl; have := R570.1 16 _ _ rfl; have := R570.1 19 _ _ rfl; have := E580.f yS; omega); have := R570.1 15 _ _ rfl; have := R570.1 16 _ _ rfl; have := R570.1 19 _ _ rfl; have := E580.f yS; omega
            have z611 : ra M591 o0 12 ((880 + ra M0 o0 6 44).toNat) = v589.toInt := (E595 _).trans (if_pos h610)
            have K612 : rK M0 M591 o0 ((880 + ra M0 o0 6 44).toNat) := K581.st A596 E595 (by have := mz_nat9 (i := v517) (by have := R570.1 15 _ _ rfl; have := R570.1 16 _ _ rfl; have := R570.1 19 _ _ rfl; have := E580.f yS; omega); have := R570.1 15 _ _ rfl; have := R570.1 16 _ _ rfl; have := R570.1 19 _ _ rfl; have := E580.f yS; omega)
            have K613 : nN M591 o0 := K582.same (sA_a A596 (by decide)) (sF_a V597)
            clear z573 z574 z575 z576 z577 z578 z579
            exact mv_vret d_TrustDeskModel_readClause_184 rfl ⟨_, I592, rfl, R594, (rW.of E609.1 (fun w9 => (by have := R594.1 15 _ _ rfl; have := R594.1 16 _ _ rfl; have := R594.1 19 _ _ rfl; have := E609.f yS; omega)) (fun w9 => rG.step yG yR E609 w9 K612 (by have := yR.2 6 _ _ rfl 44; omega) (by have := R594.1 15 _ _ rfl; have := R594.1 16 _ _ rfl; have := R594.1 19 _ _ rfl; have := E609.f yS; omega) (by have := R594.1 15 _ _ rfl; have := R594.1 16 _ _ rfl; have := R594.1 19 _ _ rfl; have := E609.f yS; omega) (fun h9 => by exfalso; have := R594.1 15 _ _ rfl; have := R594.1 16 _ _ rfl; have := R594.1 19 _ _ rfl; have := E609.f yS; omega) (fun h9 => (by have := R594.1 15 _ _ rfl; have := R594.1 16 _ _ rfl; have := R594.1 19 _ _ rfl; have := E609.f yS; omega)) (by have := R594.1 15 _ _ rfl; have := R594.1 16 _ _ rfl; have := R594.1 19 _ _ rfl; have := E609.f yS; omega) K613)), (rO.of E609 K612 (by have := yR.2 6 _ _ rfl 44; omega)), (by have := R594.1 15 _ _ rfl; have := R594.1 16 _ _ rfl; have := R594.1 19 _ _ rfl; have := E609.f yS; omega), (by have := R594.1 15 _ _ rfl; have := R594.1 16 _ _ rfl; have := R594.1 19 _ _ rfl; have := E609.f yS; omega), (fun h9 _ => absurd h9 (f16 (by have := R594.1 15 _ _ rfl; have := R594.1 16 _ _ rfl; have := R594.1 19 _ _ rfl; have := E609.f yS; omega))), (by have := R594.1 15 _ _ rfl; have := R594.1 16 _ _ rfl; have := R594.1 19 _ _ rfl; have := E609.f yS; omega)⟩
    · refine mv_aload_n d_TrustDeskModel_readClause_22 rfl rfl ?_
      refine mv_ldcSw (id := 44) (tx := "trust") d_TrustDeskModel_readClause_23 (List.mem_of_getElem? (i := 34) rfl) ?_
      obtain ⟨_, b620, -⟩ := I237.1 _ _ t244
      refine mv_callV (kc' := 0) (ks' := 0) (As := [.ref 44]) (st9 := [.ref 44, .ref o0]) d_TrustDeskModel_readClause_26 lV_TrustDeskModel_244 b620 rfl (tc_TrustDeskModel_isWord_s1_44_x (d := (d + 21)) (x9 := x9) (o0 := o0) t244 R242 I237.start) rfl (Nat.le_of_ble_eq_true rfl) (Nat.le_of_ble_eq_true rfl) (Nat.le_of_ble_eq_true rfl) (hst := rfl) (fun b614r M615 n616 b614 => ?_)
      obtain ⟨T617, J618, v621, rfl, b622, b623, R624, f625⟩ := b614
      have I619 := I237.call J618 (tm_sub (by decide)) (Or.inl rfl)
      have t626 := J618.up t244
      have z627 := (rv_c I237 J618 (I237.up h_o0) (k := 15) rfl).trans z245
      have z628 := (rv_c I237 J618 (I237.up h_o0) (k := 16) rfl).trans z246
      have z629 := (rv_c I237 J618 (I237.up h_o0) (k := 17) rfl).trans z247
      have z630 := (rv_c I237 J618 (I237.up h_o0) (k := 19) rfl).trans z248
      have z631 := (rv_c I237 J618 (I237.up h_o0) (k := 22) rfl).trans z249
      have z632 := (rv_c I237 J618 (I237.up h_o0) (k := 24) rfl).trans z250
      have z633 := (ra_call I237 J618 (I237.up h_o0) (k := 5) rfl rfl rfl 44).trans z251
      have z634 := (ra_call I237 J618 (I237.up h_o0) (k := 6) rfl rfl rfl 44).trans z252
      have E635 : rE M0 M615 o0 0 0 := E253.same (rE_hv I237 J618 (I237.up h_o0) 15 19 (by decide)) (rE_ha I237 J618 (I237.up h_o0) (by decide))
      have K636 : rK M0 M615 o0 ((880 + ra M0 o0 6 44).toNat) := K254.same (sA_c I237 J618 (I237.up h_o0) (by decide))
      have K637 : nN M615 o0 := K255.same (sA_c I237 J618 (I237.up h_o0) (by decide)) (sF_c I237 J618 (I237.up h_o0) (by decide))
      clear z245 z246 z248 z249 z250 z251 z252
      have := mz_hi v621
      refine mv_if_neZ (tgt := 40) (a := v621.toInt) d_TrustDeskModel_readClause_29 (by decide) rfl (fun b638 => ?_) (fun b638 => ?_)
      · refine mv_aload_n d_TrustDeskModel_readClause_40 rfl rfl ?_
        obtain ⟨a640, q639, t_a640⟩ := tm_atR I619 t626 (k := 6) rfl
        refine tr_getK q639 d_TrustDeskModel_readClause_41 f_TrustDeskModel_23_13 ?_
        refine mv_bipush (v := 44) d_TrustDeskModel_readClause_44 (by decide) ?_
        refine tr_ialdR (o := o0) (k := 6) I619 q639 t_a640 (by decide) d_TrustDeskModel_readClause_46 (by unfold vp_in; decide) (fun v641 e642 => ?_)
        have := R624.a (k := 6) rfl (44 : Int32).toNatClampNeg
        have : v641.toInt = ra M615 o0 6 44 := e642
        have : v641.toInt = _ := Eq.trans e642 z634
        refine mv_bipush (v := 12) d_TrustDeskModel_readClause_47 (by decide) ?_
        have := mz_hi v641
        refine mv_icmp_eqZ (tgt := 65) (a := v641.toInt) (b := 12) d_TrustDeskModel_readClause_49 (by decide) rfl (by decide) (fun b643 => ?_) (fun b643 => ?_)
        · refine mv_aload_n d_TrustDeskModel_readClause_65 rfl rfl ?_
          refine mv_iconst (v := 4) d_TrustDeskModel_readClause_66 (by decide) ?_
          obtain ⟨_, b650, -⟩ := I619.1 _ _ t626
          have : (4 : Int32).toInt = 4 := by decide
          refine mv_callV (kc' := 0) (ks' := 0) (As := [.int 4]) (st9 := [.int 4, .ref o0]) d_TrustDeskModel_readClause_67 lV_TrustDeskModel_240 b650 rfl (tc_TrustDeskModel_fails_x (d := (d + 25)) (x9 := x9) (o0 := o0) (x1 := 4) t626 R624 (by decide) I619.start) rfl (Nat.le_of_ble_eq_true rfl) (Nat.le_of_ble_eq_true rfl) (Nat.le_of_ble_eq_true rfl) (hst := rfl) (fun b644r M645 n646 b644 => ?_)
          obtain ⟨T647, J648, rfl, R651, f652⟩ := b644
          have I649 := I619.call J648 (tm_sub (by decide)) (Or.inl rfl)
          have t653 := J648.up t626
          have z654 := (rv_c I619 J648 (I619.up h_o0) (k := 15) rfl).trans z627
          have z655 := (rv_c I619 J648 (I619.up h_o0) (k := 16) rfl).trans z628
          have z656 := (rv_c I619 J648 (I619.up h_o0) (k := 17) rfl).trans z629
          have z657 := (rv_c I619 J648 (I619.up h_o0) (k := 22) rfl).trans z631
          have z658 := (rv_c I619 J648 (I619.up h_o0) (k := 24) rfl).trans z632
          have z659 := (ra_call I619 J648 (I619.up h_o0) (k := 5) rfl rfl rfl 44).trans z633
          have z660 := (ra_call I619 J648 (I619.up h_o0) (k := 6) rfl rfl rfl 44).trans z634
          have E661 : rE M0 M645 o0 0 0 := E635.fails (rE_hv I619 J648 (I619.up h_o0) 15 18 (by decide)) (rE_ha I619 J648 (I619.up h_o0) (by decide)) f652 0 0
          have K662 : rK M0 M645 o0 ((880 + ra M0 o0 6 44).toNat) := K636.same (sA_c I619 J648 (I619.up h_o0) (by decide))
          have K663 : nN M645 o0 := K637.same (sA_c I619 J648 (I619.up h_o0) (by decide)) (sF_c I619 J648 (I619.up h_o0) (by decide))
          clear z627 z628 z629 z631 z632 z633 z634
          have q664 := J648.keep t626 (by decide) q639
          have t665 := J648.up t_a640
          refine mv_aload_n d_TrustDeskModel_readClause_70 rfl rfl ?_
          obtain ⟨_, b666, -⟩ := I649.1 _ _ t653
          refine mv_callV (kc1 := 0) (ks1 := 0) (kc' := 0) (ks' := 0) (As := []) (st9 := [.ref o0]) d_TrustDeskModel_readClause_71 lV_TrustDeskModel_230 b666 rfl (mj_enter (by decide) (Nat.le_of_ble_eq_true rfl) ?_) rfl (Nat.le_of_ble_eq_true rfl) (Nat.le_of_ble_eq_true rfl) (Nat.le_of_ble_eq_true rfl) (hst := rfl) (fun _ _ _ h => h)
          refine mv_aload_n d_TrustDeskModel_isWell_0 rfl rfl ?_
          obtain ⟨v668, q667⟩ := tm_atI I649 t653 (k := 19) rfl
          refine tr_getK q667 d_TrustDeskModel_isWell_1 f_TrustDeskModel_224_13 ?_
          have := R651.f (k := 19) q667 rfl
          have := tm_rv q667
          refine mv_if_neZ (tgt := 11) (a := v668.toInt) d_TrustDeskModel_isWell_4 (by decide) rfl (fun b669 => ?_) (fun b669 => ?_)
          · refine mv_iconst (v := 0) d_TrustDeskModel_isWell_11 (by decide) ?_
            refine mv_iret d_TrustDeskModel_isWell_12 rfl (by decide) ?_
            refine mv_if_ne_f (tgt := 78) d_TrustDeskModel_readClause_74 (by decide) (by decide) ?_
            exact mv_vret d_TrustDeskModel_readClause_77 rfl ⟨_, I649, rfl, R651, (rW.of E661.1 (fun h9 => absurd h9 (by have := R651.1 15 _ _ rfl; have := R651.1 16 _ _ rfl; have := R651.1 19 _ _ rfl; have := E661.f yS; omega)) (fun h9 => absurd h9 (by have := R651.1 15 _ _ rfl; have := R651.1 16 _ _ rfl; have := R651.1 19 _ _ rfl; have := E661.f yS; omega))), (rO.of E661 K662 (by have := yR.2 6 _ _ rfl 44; omega)), (by have := R651.1 15 _ _ rfl; have := R651.1 16 _ _ rfl; have := R651.1 19 _ _ rfl; have := E661.f yS; omega), (by have := R651.1 15 _ _ rfl; have := R651.1 16 _ _ rfl; have := R651.1 19 _ _ rfl; have := E661.f yS; omega), (fun _ h9 => absurd h9 (by have := R651.1 15 _ _ rfl; have := R651.1 16 _ _ rfl; have := R651.1 19 _ _ rfl; have := E661.f yS; omega)), (by have := R651.1 15 _ _ rfl; have := R651.1 16 _ _ rfl; have := R651.1 19 _ _ rfl; have := E661.f yS; omega)⟩
          · exfalso
            have := R651.1 15 _ _ rfl; have := R651.1 16 _ _ rfl; have := R651.1 19 _ _ rfl; have := E661.f yS; omega
        · refine mv_iload_n d_TrustDeskModel_readClause_52 rfl rfl ?_
          have := mz_hi v10
          refine mv_if_eqZ (tgt := 70) (a := v10.toInt) d_TrustDeskModel_readClause_53 (by decide) rfl (fun b670 => ?_) (fun b670 => absurd b670 (by omega))
          refine mv_aload_n d_TrustDeskModel_readClause_70 rfl rfl ?_
          obtain ⟨_, b671, -⟩ := I619.1 _ _ t626
          refine mv_callV (kc1 := 0) (ks1 := 0) (kc' := 0) (ks' := 0) (As := []) (st9 := [.ref o0]) d_TrustDeskModel_readClause_71 lV_TrustDeskModel_230 b671 rfl (mj_enter (by decide) (Nat.le_of_ble_eq_true rfl) ?_) rfl (Nat.le_of_ble_eq_true rfl) (Nat.le_of_ble_eq_true rfl) (Nat.le_of_ble_eq_true rfl) (hst := rfl) (fun _ _ _ h => h)
          refine mv_aload_n d_TrustDeskModel_isWell_0 rfl rfl ?_
          obtain ⟨v673, q672⟩ := tm_atI I619 t626 (k := 19) rfl
          refine tr_getK q672 d_TrustDeskModel_isWell_1 f_TrustDeskModel_224_13 ?_
          have := R624.f (k := 19) q672 rfl
          have := (tm_rv q672).symm.trans z630
          have := tm_rv q672
          have := mz_hi v673
          refine mv_if_neZ (tgt := 11) (a := v673.toInt) d_TrustDeskModel_isWell_4 (by decide) rfl (fun b674 => ?_) (fun b674 => ?_)
          · refine mv_iconst (v := 0) d_TrustDeskModel_isWell_11 (by decide) ?_
            refine mv_iret d_TrustDeskModel_isWell_12 rfl (by decide) ?_
            refine mv_if_ne_f (tgt := 78) d_TrustDeskModel_readClause_74 (by decide) (by decide) ?_
            exact mv_vret d_TrustDeskModel_readClause_77 rfl ⟨_, I619, rfl, R624, (rW.of E635.1 (fun w9 => (by have := R624.1 15 _ _ rfl; have := R624.1 16 _ _ rfl; have := R624.1 19 _ _ rfl; have := E635.f yS; omega)) (fun w9 => rG.step yG yR E635 w9 K636 (by have := yR.2 6 _ _ rfl 44; omega) (by have := R624.1 15 _ _ rfl; have := R624.1 16 _ _ rfl; have := R624.1 19 _ _ rfl; have := E635.f yS; omega) (by have := R624.1 15 _ _ rfl; have := R624.1 16 _ _ rfl; have := R624.1 19 _ _ rfl; have := E635.f yS; omega) (fun h9 => by exfalso; have := R624.1 15 _ _ rfl; have := R624.1 16 _ _ rfl; have := R624.1 19 _ _ rfl; have := E635.f yS; omega) (fun h9 => (by have := R624.1 15 _ _ rfl; have := R624.1 16 _ _ rfl; have := R624.1 19 _ _ rfl; have := E635.f yS; omega)) (by have := R624.1 15 _ _ rfl; have := R624.1 16 _ _ rfl; have := R624.1 19 _ _ rfl; have := E635.f yS; omega) K637)), (rO.of E635 K636 (by have := yR.2 6 _ _ rfl 44; omega)), (by have := R624.1 15 _ _ rfl; have := R624.1 16 _ _ rfl; have := R624.1 19 _ _ rfl; have := E635.f yS; omega), (by have := R624.1 15 _ _ rfl; have := R624.1 16 _ _ rfl; have := R624.1 19 _ _ rfl; have := E635.f yS; omega), (fun h9 _ => absurd h9 (f16 (by have := R624.1 15 _ _ rfl; have := R624.1 16 _ _ rfl; have := R624.1 19 _ _ rfl; have := E635.f yS; omega))), (by have := R624.1 15 _ _ rfl; have := R624.1 16 _ _ rfl; have := R624.1 19 _ _ rfl; have := E635.f yS; omega)⟩
          · refine mv_iconst (v := 1) d_TrustDeskModel_isWell_7 (by decide) ?_
            refine mv_goto (tgt := 12) d_TrustDeskModel_isWell_8 (by decide) ?_
            refine mv_iret d_TrustDeskModel_isWell_12 rfl (by decide) ?_
            refine mv_if_ne_t (tgt := 78) d_TrustDeskModel_readClause_74 (by decide) (by decide) ?_
            refine mv_aload_n d_TrustDeskModel_readClause_78 rfl rfl ?_
            refine mv_ldcSw (id := 43) (tx := "mark") d_TrustDeskModel_readClause_79 (List.mem_of_getElem? (i := 33) rfl) ?_
            obtain ⟨_, b681, -⟩ := I619.1 _ _ t626
            refine mv_callV (kc' := 0) (ks' := 0) (As := [.ref 43]) (st9 := [.ref 43, .ref o0]) d_TrustDeskModel_readClause_82 lV_TrustDeskModel_244 b681 rfl (tc_TrustDeskModel_isWord_s1_43_x (d := (d + 21)) (x9 := x9) (o0 := o0) t626 R624 I619.start) rfl (Nat.le_of_ble_eq_true rfl) (Nat.le_of_ble_eq_true rfl) (Nat.le_of_ble_eq_true rfl) (hst := rfl) (fun b675r M676 n677 b675 => ?_)
            obtain ⟨T678, J679, v682, rfl, b683, b684, R685, f686⟩ := b675
            have I680 := I619.call J679 (tm_sub (by decide)) (Or.inl rfl)
            have t687 := J679.up t626
            have z688 := (rv_c I619 J679 (I619.up h_o0) (k := 15) rfl).trans z627
            have z689 := (rv_c I619 J679 (I619.up h_o0) (k := 16) rfl).trans z628
            have z690 := (rv_c I619 J679 (I619.up h_o0) (k := 17) rfl).trans z629
            have z691 := (rv_c I619 J679 (I619.up h_o0) (k := 19) rfl).trans z630
            have z692 := (rv_c I619 J679 (I619.up h_o0) (k := 22) rfl).trans z631
            have z693 := (rv_c I619 J679 (I619.up h_o0) (k := 24) rfl).trans z632
            have z694 := (ra_call I619 J679 (I619.up h_o0) (k := 5) rfl rfl rfl 44).trans z633
            have z695 := (ra_call I619 J679 (I619.up h_o0) (k := 6) rfl rfl rfl 44).trans z634
            have E696 : rE M0 M676 o0 0 0 := E635.same (rE_hv I619 J679 (I619.up h_o0) 15 19 (by decide)) (rE_ha I619 J679 (I619.up h_o0) (by decide))
            have K697 : rK M0 M676 o0 ((880 + ra M0 o0 6 44).toNat) := K636.same (sA_c I619 J679 (I619.up h_o0) (by decide))
            have K698 : nN M676 o0 := K637.same (sA_c I619 J679 (I619.up h_o0) (by decide)) (sF_c I619 J679 (I619.up h_o0) (by decide))
            clear z627 z628 z630 z631 z632 z633 z634
            have q699 := J679.keep t626 (by decide) q639
            have t700 := J679.up t_a640
            have q701 := J679.keep t626 (by decide) q672
            refine mv_istore_n (lv' := [(2, .int v682), (1, .int v10), (0, .ref o0)]) d_TrustDeskModel_readClause_85 rfl (by decide) rfl ?_
            refine mv_aload_n d_TrustDeskModel_readClause_86 rfl rfl ?_
            refine mv_iload_n d_TrustDeskModel_readClause_87 rfl rfl ?_
            have := mz_hi v10
            refine mv_if_eqZ (tgt := 96) (a := v10.toInt) d_TrustDeskModel_readClause_88 (by decide) rfl (fun b702 => ?_) (fun b702 => absurd b702 (by omega))
            refine mv_iload_n d_TrustDeskModel_readClause_96 rfl rfl ?_
            have := mz_hi v682
            refine mv_if_eqZ (tgt := 105) (a := v682.toInt) d_TrustDeskModel_readClause_97 (by decide) rfl (fun b703 => ?_) (fun b703 => ?_)
            · refine mv_bipush (v := 9) d_TrustDeskModel_readClause_105 (by decide) ?_
              obtain ⟨_, b710, -⟩ := I680.1 _ _ t687
              have : (9 : Int32).toInt = 9 := by decide
              refine mv_callV (kc' := 0) (ks' := 0) (As := [.int 9]) (st9 := [.int 9, .ref o0]) d_TrustDeskModel_readClause_107 lV_TrustDeskModel_342 b710 rfl (tc_TrustDeskModel_begin_x (d := (d + 23)) (x9 := x9) (o0 := o0) (x1 := 9) t687 R685 E696.1 (by have := R685.1 15 _ _ rfl; have := R685.1 16 _ _ rfl; have := R685.1 19 _ _ rfl; have := E696.f yS; omega) (by have := R685.1 15 _ _ rfl; have := R685.1 16 _ _ rfl; have := R685.1 19 _ _ rfl; have := E696.f yS; omega) (by have := R685.1 15 _ _ rfl; have := R685.1 16 _ _ rfl; have := R685.1 19 _ _ rfl; have := E696.f yS; omega) (by have := R685.1 15 _ _ rfl; have := R685.1 16 _ _ rfl; have := R685.1 19 _ _ rfl; have := E696.f yS; omega) I680.start) rfl (Nat.le_of_ble_eq_true rfl) (Nat.le_of_ble_eq_true rfl) (Nat.le_of_ble_eq_true rfl) (hst := rfl) (fun b704r M705 n706 b704 => ?_)
              obtain ⟨T707, J708, v711, rfl, R712, f713, f714, f715, f716, f717, f718⟩ := b704
              have I709 := I680.call J708 (tm_sub (by decide)) (Or.inl rfl)
              have t719 := J708.up t687
              have z720 := (rv_c I680 J708 (I680.up h_o0) (k := 19) rfl).trans z691
              have z721 := (rv_c I680 J708 (I680.up h_o0) (k := 22) rfl).trans z692
              have z722 := (rv_c I680 J708 (I680.up h_o0) (k := 24) rfl).trans z693
              have z723 := (ra_call I680 J708 (I680.up h_o0) (k := 5) rfl rfl rfl 44).trans z694
              have E724 : rE M0 M705 o0 0 1 := E696.trans f713 (by decide) (yR.2 5 _ _ rfl 44).1 (by decide) (by decide)
              have := f713.w
              have := f713.w2
              have h725 : (880 + ra M676 o0 6 44).toNat = (880 + ra M0 o0 6 44).toNat := by omega
              rw [h725] at f716 f717 f718
              have K726 : rK M0 M705 o0 ((880 + ra M0 o0 6 44).toNat) := K697.trans f718
              have K727 : nN M705 o0 := K698.same (sA_c I680 J708 (I680.up h_o0) (by decide)) (sF_c I680 J708 (I680.up h_o0) (by decide))
              clear z691 z692 z693
              have q728 := J708.keep t687 (by decide) q699
              have t729 := J708.up t700
              have q730 := J708.keep t687 (by decide) q701
              refine mv_istore_n (lv' := [(3, .int v711), (2, .int v682), (1, .int v10), (0, .ref o0)]) d_TrustDeskModel_readClause_110 rfl (by decide) rfl ?_
              refine mv_iload_n d_TrustDeskModel_readClause_111 rfl rfl ?_
              have := mz_hi v10
              refine mv_if_eqZ (tgt := 123) (a := v10.toInt) d_TrustDeskModel_readClause_112 (by decide) rfl (fun b731 => ?_) (fun b731 => absurd b731 (by omega))
              refine mv_iload_n d_TrustDeskModel_readClause_123 rfl rfl ?_
              have := mz_hi v682
              refine mv_if_eqZ (tgt := 135) (a := v682.toInt) d_TrustDeskModel_readClause_124 (by decide) rfl (fun b732 => ?_) (fun b732 => absurd b732 (by omega))
              refine mv_aload_n d_TrustDeskModel_readClause_135 rfl rfl ?_
              obtain ⟨a734, q733, t_a734⟩ := tm_atR I709 t719 (k := 8) rfl
              refine tr_getK q733 d_TrustDeskModel_readClause_136 f_TrustDeskModel_29_13 ?_
              refine mv_iload_n d_TrustDeskModel_readClause_139 rfl rfl ?_
              refine mv_aload_n d_TrustDeskModel_readClause_140 rfl rfl ?_
              refine mv_iconst (v := 1) d_TrustDeskModel_readClause_141 (by decide) ?_
              refine mv_bipush (v := 7) d_TrustDeskModel_readClause_142 (by decide) ?_
              obtain ⟨_, b741, -⟩ := I709.1 _ _ t719
              have : (1 : Int32).toInt = 1 := by decide
              have : (7 : Int32).toInt = 7 := by decide
              refine mv_callV (kc' := 0) (ks' := 0) (As := [.int 1, .int 7]) (st9 := [.int 7, .int 1, .ref o0, .int v711, .ref a734]) d_TrustDeskModel_readClause_144 lV_TrustDeskModel_317 b741 rfl (tc_TrustDeskModel_number_x (d := (d + 23)) (x9 := x9) (o0 := o0) (x1 := 1) (x2 := 7) t719 R712 E724.1 (by have := R712.1 15 _ _ rfl; have := R712.1 16 _ _ rfl; have := R712.1 19 _ _ rfl; have := E724.f yS; omega) I709.start) rfl (Nat.le_of_ble_eq_true rfl) (Nat.le_of_ble_eq_true rfl) (Nat.le_of_ble_eq_true rfl) (hst := rfl) (fun b735r M736 n737 b735 => ?_)
              obtain ⟨T738, J739, v742, rfl, R743, f744, f745⟩ := b735
              have I740 := I709.call J739 (tm_sub (by decide)) (Or.inl rfl)
              have t746 := J739.up t719
              have t747 := J739.up t_a734
              have z748 := (rv_c I709 J739 (I709.up h_o0) (k := 22) rfl).trans z721
              have z749 := (rv_c I709 J739 (I709.up h_o0) (k := 24) rfl).trans z722
              have z750 := (ra_call I709 J739 (I709.up h_o0) (k := 5) rfl rfl rfl 44).trans z723
              have z751 := (ra_call I709 J739 (I709.up h_o0) (k := 6) rfl rfl rfl 44)
              have z752 := (ra_call I709 J739 (I709.up h_o0) (k := 7) rfl rfl rfl ((880 + ra M0 o0 6 44).toNat))
              have z753 := (ra_call I709 J739 (I709.up h_o0) (k := 10) rfl rfl rfl ((880 + ra M0 o0 6 44).toNat))
              have E754 : rE M0 M736 o0 0 2 := E724.trans f744 (by decide) (yR.2 5 _ _ rfl 44).1 (by decide) (by decide)
              have := f744.w
              have := f744.w2
              have K755 : rK M0 M736 o0 ((880 + ra M0 o0 6 44).toNat) := K726.same (sA_c I709 J739 (I709.up h_o0) (by decide))
              have K756 : nN M736 o0 := K727.same (sA_c I709 J739 (I709.up h_o0) (by decide)) (sF_c I709 J739 (I709.up h_o0) (by decide))
              clear z721 z722 z723
              have q757 := J739.keep t719 (by decide) q728
              have t758 := J739.up t729
              have q759 := J739.keep t719 (by decide) q733
              refine tr_iastR (k := 8) I740 R743 (I740.up h_o0) q759 t747 (by decide) (by decide) (fun lo hi h => by cases h; have := R743.1 15 _ _ rfl; have := R743.1 16 _ _ rfl; have := R743.1 19 _ _ rfl; have := E754.f yS; exact ⟨by show ((-1) : Int) ≤ v742.toInt; omega, by show v742.toInt ≤ (720 : Int); omega⟩) (Or.inl (by decide)) d_TrustDeskModel_readClause_147 (vp_in_iff.mpr (by have := R743.1 15 _ _ rfl; have := R743.1 16 _ _ rfl; have := R743.1 19 _ _ rfl; have := E754.f yS; omega)) (fun M760 I761 K762 R763 E764 A765 V766 => ?_)
              have z767 := (V766 15)
              have z768 := (V766 16)
              have z769 := (V766 17)
              have z770 := (V766 19)
              have z771 := (V766 22).trans z748
              have z772 := (V766 24).trans z749
              have z773 := (A765 5 (by decide) rfl 44).trans z750
              have z774 := (A765 6 (by decide) rfl 44).trans z751
              have z775 := (A765 7 (by decide) rfl ((880 + ra M0 o0 6 44).toNat)).trans z752
              have z776 := (A765 10 (by decide) rfl ((880 + ra M0 o0 6 44).toNat)).trans z753
              have E777 : rE M0 M760 o0 0 2 := E754.same (fun k _ _ => V766 k) (fun k h1 h2 => A765 k (by omega) (by rcases (show k = 4 ∨ k = 5 by omega) with rfl | rfl <;> rfl))
              have h778 : (880 + ra M0 o0 6 44).toNat = v711.toNatClampNeg := by have := mz_nat9 (i := v711) (by have := R743.1 15 _ _ rfl; have := R743.1 16 _ _ rfl; have := R743.1 19 _ _ rfl; have := E754.f yS; omega); have := R743.1 15 _ _ rfl; have := R743.1 16 _ _ rfl; have := R743.1 19 _ _ rfl; have := E754.f yS; omega
              have z779 : ra M760 o0 8 ((880 + ra M0 o0 6 44).toNat) = v742.toInt := (E764 _).trans (if_pos h778)
              have K780 : rK M0 M760 o0 ((880 + ra M0 o0 6 44).toNat) := K755.st A765 E764 (by have := mz_nat9 (i := v711) (by have := R743.1 15 _ _ rfl; have := R743.1 16 _ _ rfl; have := R743.1 19 _ _ rfl; have := E754.f yS; omega); have := R743.1 15 _ _ rfl; have := R743.1 16 _ _ rfl; have := R743.1 19 _ _ rfl; have := E754.f yS; omega)
              have K781 : nN M760 o0 := K756.same (sA_a A765 (by decide)) (sF_a V766)
              clear z748 z749 z750 z751 z752 z753
              refine mv_aload_n d_TrustDeskModel_readClause_148 rfl rfl ?_
              obtain ⟨a783, q782, t_a783⟩ := tm_atR I761 t746 (k := 9) rfl
              refine tr_getK q782 d_TrustDeskModel_readClause_149 f_TrustDeskModel_32_13 ?_
              refine mv_iload_n d_TrustDeskModel_readClause_152 rfl rfl ?_
              refine mv_aload_n d_TrustDeskModel_readClause_153 rfl rfl ?_
              refine mv_iconst (v := 1) d_TrustDeskModel_readClause_154 (by decide) ?_
              refine mv_aload_n d_TrustDeskModel_readClause_155 rfl rfl ?_
              refine tr_getK (k := 8) (K762 _ 13 8 _ q759) d_TrustDeskModel_readClause_156 f_TrustDeskModel_29_13 ?_
              refine mv_iload_n d_TrustDeskModel_readClause_159 rfl rfl ?_
              refine tr_ialdR (o := o0) (k := 8) I761 (K762 _ 13 8 _ q759) t747 (by decide) d_TrustDeskModel_readClause_160 (vp_in_iff.mpr (by have := R763.1 15 _ _ rfl; have := R763.1 16 _ _ rfl; have := R763.1 19 _ _ rfl; have := E777.f yS; omega)) (fun v784 e785 => ?_)
              have := R763.a (k := 8) rfl (v711 : Int32).toNatClampNeg
              have h786 : (880 + ra M0 o0 6 44).toNat = v711.toNatClampNeg := by have := mz_nat9 (i := v711) (by have := R763.1 15 _ _ rfl; have := R763.1 16 _ _ rfl; have := R763.1 19 _ _ rfl; have := E777.f yS; omega); have := R763.1 15 _ _ rfl; have := R763.1 16 _ _ rfl; have := R763.1 19 _ _ rfl; have := E777.f yS; omega
              have z787 : v784.toInt = ra M760 o0 8 ((880 + ra M0 o0 6 44).toNat) := by rw [e785, h786]
              have : v784.toInt = _ := Eq.trans z787 z779
              obtain ⟨_, b794, -⟩ := I761.1 _ _ t746
              have : (1 : Int32).toInt = 1 := by decide
              refine mv_callV (kc' := 0) (ks' := 0) (As := [.int 1, .int v784]) (st9 := [.int v784, .int 1, .ref o0, .int v711, .ref a783]) d_TrustDeskModel_readClause_161 lV_TrustDeskModel_317 b794 rfl (tc_TrustDeskModel_number_x (d := (d + 23)) (x9 := x9) (o0 := o0) (x1 := 1) (x2 := v784) t746 R763 E777.1 (by have := R763.1 15 _ _ rfl; have := R763.1 16 _ _ rfl; have := R763.1 19 _ _ rfl; have := E777.f yS; omega) I761.start) rfl (Nat.le_of_ble_eq_true rfl) (Nat.le_of_ble_eq_true rfl) (Nat.le_of_ble_eq_true rfl) (hst := rfl) (fun b788r M789 n790 b788 => ?_)
              obtain ⟨T791, J792, v795, rfl, R796, f797, f798⟩ := b788
              have I793 := I761.call J792 (tm_sub (by decide)) (Or.inl rfl)
              have t799 := J792.up t746
              have t800 := J792.up t_a783
              have z801 := (rv_c I761 J792 (I761.up h_o0) (k := 22) rfl).trans z771
              have z802 := (rv_c I761 J792 (I761.up h_o0) (k := 24) rfl).trans z772
              have z803 := (ra_call I761 J792 (I761.up h_o0) (k := 5) rfl rfl rfl 44).trans z773
              have z804 := (ra_call I761 J792 (I761.up h_o0) (k := 6) rfl rfl rfl 44).trans z774
              have z805 := (ra_call I761 J792 (I761.up h_o0) (k := 7) rfl rfl rfl ((880 + ra M0 o0 6 44).toNat)).trans z775
              have z806 := (ra_call I761 J792 (I761.up h_o0) (k := 10) rfl rfl rfl ((880 + ra M0 o0 6 44).toNat)).trans z776
              have z807 := (ra_call I761 J792 (I761.up h_o0) (k := 8) rfl rfl rfl ((880 + ra M0 o0 6 44).toNat)).trans z779
              have E808 : rE M0 M789 o0 0 3 := E777.trans f797 (by decide) (yR.2 5 _ _ rfl 44).1 (by decide) (by decide)
              have := f797.w
              have := f797.w2
              have K809 : rK M0 M789 o0 ((880 + ra M0 o0 6 44).toNat) := K780.same (sA_c I761 J792 (I761.up h_o0) (by decide))
              have K810 : nN M789 o0 := K781.same (sA_c I761 J792 (I761.up h_o0) (by decide)) (sF_c I761 J792 (I761.up h_o0) (by decide))
              clear z771 z772 z773 z774 z775 z776 z779
              have q811 := J792.keep t746 (by decide) (K762 _ 13 6 _ q757)
              have t812 := J792.up t758
              have q813 := J792.keep t746 (by decide) (K762 _ 13 8 _ q759)
              have t814 := J792.up t747
              have q815 := J792.keep t746 (by decide) q782
              refine tr_iastR (k := 9) I793 R796 (I793.up h_o0) q815 t800 (by decide) (by decide) (fun lo hi h => by cases h) (Or.inl (by decide)) d_TrustDeskModel_readClause_164 (vp_in_iff.mpr (by have := R796.1 15 _ _ rfl; have := R796.1 16 _ _ rfl; have := R796.1 19 _ _ rfl; have := E808.f yS; omega)) (fun M816 I817 K818 R819 E820 A821 V822 => ?_)
              have z823 := (V822 15)
              have z824 := (V822 16)
              have z825 := (V822 17)
              have z826 := (V822 19)
              have z827 := (V822 22).trans z801
              have z828 := (V822 24).trans z802
              have z829 := (A821 5 (by decide) rfl 44).trans z803
              have z830 := (A821 6 (by decide) rfl 44).trans z804
              have z831 := (A821 7 (by decide) rfl ((880 + ra M0 o0 6 44).toNat)).trans z805
              have z832 := (A821 10 (by decide) rfl ((880 + ra M0 o0 6 44).toNat)).trans z806
              have z833 := (A821 8 (by decide) rfl ((880 + ra M0 o0 6 44).toNat)).trans z807
              have E834 : rE M0 M816 o0 0 3 := E808.same (fun k _ _ => V822 k) (fun k h1 h2 => A821 k (by omega) (by rcases (show k = 4 ∨ k = 5 by omega) with rfl | rfl <;> rfl))
              have K835 : rK M0 M816 o0 ((880 + ra M0 o0 6 44).toNat) := K809.same (sA_a A821 (by decide))
              have K836 : nN M816 o0 := K810.same (sA_a A821 (by decide)) (sF_a V822)
              clear z801 z802 z803 z804 z805 z806 z807
              refine mv_aload_n d_TrustDeskModel_readClause_165 rfl rfl ?_
              refine mv_bipush (v := 59) d_TrustDeskModel_readClause_166 (by decide) ?_
              obtain ⟨_, b843, -⟩ := I817.1 _ _ t799
              have : (59 : Int32).toInt = 59 := by decide
              refine mv_callV (kc' := 0) (ks' := 0) (As := [.int 59]) (st9 := [.int 59, .ref o0]) d_TrustDeskModel_readClause_168 lV_TrustDeskModel_291 b843 rfl (tc_TrustDeskModel_wantSign_x (d := (d + 23)) (x9 := x9) (o0 := o0) (x1 := 59) t799 R819 E834.1 (by have := R819.1 15 _ _ rfl; have := R819.1 16 _ _ rfl; have := R819.1 19 _ _ rfl; have := E834.f yS; omega) I817.start) rfl (Nat.le_of_ble_eq_true rfl) (Nat.le_of_ble_eq_true rfl) (Nat.le_of_ble_eq_true rfl) (hst := rfl) (fun b837r M838 n839 b837 => ?_)
              obtain ⟨T840, J841, rfl, R844, f845⟩ := b837
              have I842 := I817.call J841 (tm_sub (by decide)) (Or.inl rfl)
              have t846 := J841.up t799
              have z847 := (rv_c I817 J841 (I817.up h_o0) (k := 22) rfl).trans z827
              have z848 := (rv_c I817 J841 (I817.up h_o0) (k := 24) rfl).trans z828
              have z849 := (ra_call I817 J841 (I817.up h_o0) (k := 5) rfl rfl rfl 44).trans z829
              have z850 := (ra_call I817 J841 (I817.up h_o0) (k := 6) rfl rfl rfl 44).trans z830
              have z851 := (ra_call I817 J841 (I817.up h_o0) (k := 7) rfl rfl rfl ((880 + ra M0 o0 6 44).toNat)).trans z831
              have z852 := (ra_call I817 J841 (I817.up h_o0) (k := 10) rfl rfl rfl ((880 + ra M0 o0 6 44).toNat)).trans z832
              have z853 := (ra_call I817 J841 (I817.up h_o0) (k := 8) rfl rfl rfl ((880 + ra M0 o0 6 44).toNat)).trans z833
              have E854 : rE M0 M838 o0 0 4 := E834.trans f845 (by decide) (yR.2 5 _ _ rfl 44).1 (by decide) (by decide)
              have := f845.w
              have := f845.w2
              have K855 : rK M0 M838 o0 ((880 + ra M0 o0 6 44).toNat) := K835.same (sA_c I817 J841 (I817.up h_o0) (by decide))
              have K856 : nN M838 o0 := K836.same (sA_c I817 J841 (I817.up h_o0) (by decide)) (sF_c I817 J841 (I817.up h_o0) (by decide))
              clear z827 z828 z829 z830 z831 z832 z833
              have q857 := J841.keep t799 (by decide) (K818 _ 13 6 _ q811)
              have t858 := J841.up t812
              have q859 := J841.keep t799 (by decide) (K818 _ 13 8 _ q813)
              have t860 := J841.up t814
              have q861 := J841.keep t799 (by decide) (K818 _ 13 9 _ q815)
              have t862 := J841.up t800
              refine mv_aload_n d_TrustDeskModel_readClause_171 rfl rfl ?_
              obtain ⟨a864, q863, t_a864⟩ := tm_atR I842 t846 (k := 12) rfl
              refine tr_getK q863 d_TrustDeskModel_readClause_172 f_TrustDeskModel_41_13 ?_
              refine mv_iload_n d_TrustDeskModel_readClause_175 rfl rfl ?_
              refine mv_aload_n d_TrustDeskModel_readClause_176 rfl rfl ?_
              obtain ⟨a866, q865, t_a866⟩ := tm_atR I842 t846 (k := 5) rfl
              refine tr_getK q865 d_TrustDeskModel_readClause_177 f_TrustDeskModel_20_13 ?_
              refine mv_bipush (v := 44) d_TrustDeskModel_readClause_180 (by decide) ?_
              refine tr_ialdR (o := o0) (k := 5) I842 q865 t_a866 (by decide) d_TrustDeskModel_readClause_182 (by unfold vp_in; decide) (fun v867 e868 => ?_)
              have := R844.a (k := 5) rfl (44 : Int32).toNatClampNeg
              have : v867.toInt = ra M838 o0 5 44 := e868
              have : v867.toInt = _ := Eq.trans e868 z849
              refine tr_iastR (k := 12) I842 R844 (I842.up h_o0) q863 t_a864 (by decide) (by decide) (fun lo hi h => by cases h; have := R844.1 15 _ _ rfl; have := R844.1 16 _ _ rfl; have := R844.1 19 _ _ rfl; have := E854.f yS; exact ⟨by show (0 : Int) ≤ v867.toInt; omega, by show v867.toInt ≤ (400 : Int); omega⟩) (Or.inl (by decide)) d_TrustDeskModel_readClause_183 (vp_in_iff.mpr (by have := R844.1 15 _ _ rfl; have := R844.1 16 _ _ rfl; have := R844.1 19 _ _ rfl; have := E854.f yS; omega)) (fun M869 I870 K871 R872 E873 A874 V875 => ?_)
              have z876 := (V875 15)
              have z877 := (V875 16)
              have z878 := (V875 17)
              have z879 := (V875 19)
              have z880 := (V875 22).trans z847
              have z881 := (V875 24).trans z848
              have z882 := (A874 5 (by decide) rfl 44).trans z849
              have z883 := (A874 6 (by decide) rfl 44).trans z850
              have z884 := (A874 7 (by decide) rfl ((880 + ra M0 o0 6 44).toNat)).trans z851
              have z885 := (A874 10 (by decide) rfl ((880 + ra M0 o0 6 44).toNat)).trans z852
              have z886 := (A874 8 (by decide) rfl ((880 + ra M0 o0 6 44).toNat)).trans z853
              have E887 : rE M0 M869 o0 0 4 := E854.same (fun k _ _ => V875 k) (fun k h1 h2 => A874 k (by omega) (by rcases (show k = 4 ∨ k = 5 by omega) with rfl | rfl <;> rfl))
              have h888 : (880 + ra M0 o0 6 44).toNat = v711.toNatClampNeg := by have := mz_nat9 (i := v711) (by have := R844.1 15 _ _ rfl; have := R844.1 16 _ _ rfl; have := R844.1 19 _ _ rfl; have := E854.f yS; omega); have := R844.1 15 _ _ rfl; have := R844.1 16 _ _ rfl; have := R844.1 19 _ _ rfl; have := E854.f yS; omega
              have z889 : ra M869 o0 12 ((880 + ra M0 o0 6 44).toNat) = v867.toInt := (E873 _).trans (if_pos h888)
              have K890 : rK M0 M869 o0 ((880 + ra M0 o0 6 44).toNat) := K855.st A874 E873 (by have := mz_nat9 (i := v711) (by have := R844.1 15 _ _ rfl; have := R844.1 16 _ _ rfl; have := R844.1 19 _ _ rfl; have := E854.f yS; omega); have := R844.1 15 _ _ rfl; have := R844.1 16 _ _ rfl; have := R844.1 19 _ _ rfl; have := E854.f yS; omega)
              have K891 : nN M869 o0 := K856.same (sA_a A874 (by decide)) (sF_a V875)
              clear z847 z848 z849 z850 z851 z852 z853
              exact mv_vret d_TrustDeskModel_readClause_184 rfl ⟨_, I870, rfl, R872, (rW.of E887.1 (fun w9 => (by have := R872.1 15 _ _ rfl; have := R872.1 16 _ _ rfl; have := R872.1 19 _ _ rfl; have := E887.f yS; omega)) (fun w9 => rG.step yG yR E887 w9 K890 (by have := yR.2 6 _ _ rfl 44; omega) (by have := R872.1 15 _ _ rfl; have := R872.1 16 _ _ rfl; have := R872.1 19 _ _ rfl; have := E887.f yS; omega) (by have := R872.1 15 _ _ rfl; have := R872.1 16 _ _ rfl; have := R872.1 19 _ _ rfl; have := E887.f yS; omega) (fun h9 => by exfalso; have := R872.1 15 _ _ rfl; have := R872.1 16 _ _ rfl; have := R872.1 19 _ _ rfl; have := E887.f yS; omega) (fun h9 => (by have := R872.1 15 _ _ rfl; have := R872.1 16 _ _ rfl; have := R872.1 19 _ _ rfl; have := E887.f yS; omega)) (by have := R872.1 15 _ _ rfl; have := R872.1 16 _ _ rfl; have := R872.1 19 _ _ rfl; have := E887.f yS; omega) K891)), (rO.of E887 K890 (by have := yR.2 6 _ _ rfl 44; omega)), (by have := R872.1 15 _ _ rfl; have := R872.1 16 _ _ rfl; have := R872.1 19 _ _ rfl; have := E887.f yS; omega), (by have := R872.1 15 _ _ rfl; have := R872.1 16 _ _ rfl; have := R872.1 19 _ _ rfl; have := E887.f yS; omega), (fun h9 _ => absurd h9 (f16 (by have := R872.1 15 _ _ rfl; have := R872.1 16 _ _ rfl; have := R872.1 19 _ _ rfl; have := E887.f yS; omega))), (by have := R872.1 15 _ _ rfl; have := R872.1 16 _ _ rfl; have := R872.1 19 _ _ rfl; have := E887.f yS; omega)⟩
            · refine mv_bipush (v := 7) d_TrustDeskModel_readClause_100 (by decide) ?_
              refine mv_goto (tgt := 107) d_TrustDeskModel_readClause_102 (by decide) ?_
              obtain ⟨_, b898, -⟩ := I680.1 _ _ t687
              have : (7 : Int32).toInt = 7 := by decide
              refine mv_callV (kc' := 0) (ks' := 0) (As := [.int 7]) (st9 := [.int 7, .ref o0]) d_TrustDeskModel_readClause_107 lV_TrustDeskModel_342 b898 rfl (tc_TrustDeskModel_begin_x (d := (d + 23)) (x9 := x9) (o0 := o0) (x1 := 7) t687 R685 E696.1 (by have := R685.1 15 _ _ rfl; have := R685.1 16 _ _ rfl; have := R685.1 19 _ _ rfl; have := E696.f yS; omega) (by have := R685.1 15 _ _ rfl; have := R685.1 16 _ _ rfl; have := R685.1 19 _ _ rfl; have := E696.f yS; omega) (by have := R685.1 15 _ _ rfl; have := R685.1 16 _ _ rfl; have := R685.1 19 _ _ rfl; have := E696.f yS; omega) (by have := R685.1 15 _ _ rfl; have := R685.1 16 _ _ rfl; have := R685.1 19 _ _ rfl; have := E696.f yS; omega) I680.start) rfl (Nat.le_of_ble_eq_true rfl) (Nat.le_of_ble_eq_true rfl) (Nat.le_of_ble_eq_true rfl) (hst := rfl) (fun b892r M893 n894 b892 => ?_)
              obtain ⟨T895, J896, v899, rfl, R900, f901, f902, f903, f904, f905, f906⟩ := b892
              have I897 := I680.call J896 (tm_sub (by decide)) (Or.inl rfl)
              have t907 := J896.up t687
              have z908 := (rv_c I680 J896 (I680.up h_o0) (k := 19) rfl).trans z691
              have z909 := (rv_c I680 J896 (I680.up h_o0) (k := 22) rfl).trans z692
              have z910 := (rv_c I680 J896 (I680.up h_o0) (k := 24) rfl).trans z693
              have z911 := (ra_call I680 J896 (I680.up h_o0) (k := 5) rfl rfl rfl 44).trans z694
              have E912 : rE M0 M893 o0 0 1 := E696.trans f901 (by decide) (yR.2 5 _ _ rfl 44).1 (by decide) (by decide)
              have := f901.w
              have := f901.w2
              have h913 : (880 + ra M676 o0 6 44).toNat = (880 + ra M0 o0 6 44).toNat := by omega
              rw [h913] at f904 f905 f906
              have K914 : rK M0 M893 o0 ((880 + ra M0 o0 6 44).toNat) := K697.trans f906
              have K915 : nN M893 o0 := K698.same (sA_c I680 J896 (I680.up h_o0) (by decide)) (sF_c I680 J896 (I680.up h_o0) (by decide))
              clear z691 z692 z693
              have q916 := J896.keep t687 (by decide) q699
              have t917 := J896.up t700
              have q918 := J896.keep t687 (by decide) q701
              refine mv_istore_n (lv' := [(3, .int v899), (2, .int v682), (1, .int v10), (0, .ref o0)]) d_TrustDeskModel_readClause_110 rfl (by decide) rfl ?_
              refine mv_iload_n d_TrustDeskModel_readClause_111 rfl rfl ?_
              have := mz_hi v10
              refine mv_if_eqZ (tgt := 123) (a := v10.toInt) d_TrustDeskModel_readClause_112 (by decide) rfl (fun b919 => ?_) (fun b919 => absurd b919 (by omega))
              refine mv_iload_n d_TrustDeskModel_readClause_123 rfl rfl ?_
              have := mz_hi v682
              refine mv_if_eqZ (tgt := 135) (a := v682.toInt) d_TrustDeskModel_readClause_124 (by decide) rfl (fun b920 => absurd b920 (by omega)) (fun b920 => ?_)
              refine mv_aload_n d_TrustDeskModel_readClause_127 rfl rfl ?_
              refine mv_iload_n d_TrustDeskModel_readClause_128 rfl rfl ?_
              obtain ⟨_, b927, -⟩ := I897.1 _ _ t907
              refine mv_callV (kc' := 0) (ks' := 0) (As := [.int v899]) (st9 := [.int v899, .ref o0]) d_TrustDeskModel_readClause_129 lV_TrustDeskModel_348 b927 rfl (tc_TrustDeskModel_readMarks_x (d := (d + 22)) (x9 := x9) (o0 := o0) (x1 := v899) t907 R900 E912.1 (by have := R900.1 15 _ _ rfl; have := R900.1 16 _ _ rfl; have := R900.1 19 _ _ rfl; have := E912.f yS; omega) (by have := R900.1 15 _ _ rfl; have := R900.1 16 _ _ rfl; have := R900.1 19 _ _ rfl; have := E912.f yS; omega) I897.start) rfl (Nat.le_of_ble_eq_true rfl) (Nat.le_of_ble_eq_true rfl) (Nat.le_of_ble_eq_true rfl) (hst := rfl) (fun b921r M922 n923 b921 => ?_)
              obtain ⟨T924, J925, rfl, R928, f929, f930, f931⟩ := b921
              have I926 := I897.call J925 (tm_sub (by decide)) (Or.inl rfl)
              have t932 := J925.up t907
              have z933 := (rv_c I897 J925 (I897.up h_o0) (k := 22) rfl).trans z909
              have z934 := (rv_c I897 J925 (I897.up h_o0) (k := 24) rfl).trans z910
              have z935 := (ra_call I897 J925 (I897.up h_o0) (k := 5) rfl rfl rfl 44).trans z911
              have z936 := (ra_call I897 J925 (I897.up h_o0) (k := 6) rfl rfl rfl 44)
              have z937 := (ra_call I897 J925 (I897.up h_o0) (k := 7) rfl rfl rfl ((880 + ra M0 o0 6 44).toNat))
              have z938 := (ra_call I897 J925 (I897.up h_o0) (k := 10) rfl rfl rfl ((880 + ra M0 o0 6 44).toNat))
              have E939 : rE M0 M922 o0 0 1 := E912.trans f929 (by decide) (yR.2 5 _ _ rfl 44).1 (by decide) (by decide)
              have := f929.w
              have := f929.w2
              have h940 : v899.toNatClampNeg = (880 + ra M0 o0 6 44).toNat := by have := mz_nat9 (i := v899) (by have := R900.1 15 _ _ rfl; have := R900.1 16 _ _ rfl; have := R900.1 19 _ _ rfl; have := E912.f yS; omega); have := R900.1 15 _ _ rfl; have := R900.1 16 _ _ rfl; have := R900.1 19 _ _ rfl; have := E912.f yS; omega
              rw [h940] at f930 f931
              have K941 : rK M0 M922 o0 ((880 + ra M0 o0 6 44).toNat) := K914.one8 (sA_c I897 J925 (I897.up h_o0) (by decide)) f930
              have K942 : nN M922 o0 := K915.same (sA_c I897 J925 (I897.up h_o0) (by decide)) (sF_c I897 J925 (I897.up h_o0) (by decide))
              clear z909 z910 z911
              have q943 := J925.keep t907 (by decide) q916
              have t944 := J925.up t917
              refine mv_goto (tgt := 165) d_TrustDeskModel_readClause_132 (by decide) ?_
              refine mv_aload_n d_TrustDeskModel_readClause_165 rfl rfl ?_
              refine mv_bipush (v := 59) d_TrustDeskModel_readClause_166 (by decide) ?_
              obtain ⟨_, b951, -⟩ := I926.1 _ _ t932
              have : (59 : Int32).toInt = 59 := by decide
              refine mv_callV (kc' := 0) (ks' := 0) (As := [.int 59]) (st9 := [.int 59, .ref o0]) d_TrustDeskModel_readClause_168 lV_TrustDeskModel_291 b951 rfl (tc_TrustDeskModel_wantSign_x (d := (d + 23)) (x9 := x9) (o0 := o0) (x1 := 59) t932 R928 E939.1 (by have := R928.1 15 _ _ rfl; have := R928.1 16 _ _ rfl; have := R928.1 19 _ _ rfl; have := E939.f yS; omega) I926.start) rfl (Nat.le_of_ble_eq_true rfl) (Nat.le_of_ble_eq_true rfl) (Nat.le_of_ble_eq_true rfl) (hst := rfl) (fun b945r M946 n947 b945 => ?_)
              obtain ⟨T948, J949, rfl, R952, f953⟩ := b945
              have I950 := I926.call J949 (tm_sub (by decide)) (Or.inl rfl)
              have t954 := J949.up t932
              have z955 := (rv_c I926 J949 (I926.up h_o0) (k := 22) rfl).trans z933
              have z956 := (rv_c I926 J949 (I926.up h_o0) (k := 24) rfl).trans z934
              have z957 := (ra_call I926 J949 (I926.up h_o0) (k := 5) rfl rfl rfl 44).trans z935
              have z958 := (ra_call I926 J949 (I926.up h_o0) (k := 6) rfl rfl rfl 44).trans z936
              have z959 := (ra_call I926 J949 (I926.up h_o0) (k := 7) rfl rfl rfl ((880 + ra M0 o0 6 44).toNat)).trans z937
              have z960 := (ra_call I926 J949 (I926.up h_o0) (k := 10) rfl rfl rfl ((880 + ra M0 o0 6 44).toNat)).trans z938
              have z961 := (ra_call I926 J949 (I926.up h_o0) (k := 8) rfl rfl rfl ((880 + ra M0 o0 6 44).toNat))
              have E962 : rE M0 M946 o0 0 2 := E939.trans f953 (by decide) (yR.2 5 _ _ rfl 44).1 (by decide) (by decide)
              have := f953.w
              have := f953.w2
              have K963 : rK M0 M946 o0 ((880 + ra M0 o0 6 44).toNat) := K941.same (sA_c I926 J949 (I926.up h_o0) (by decide))
              have K964 : nN M946 o0 := K942.same (sA_c I926 J949 (I926.up h_o0) (by decide)) (sF_c I926 J949 (I926.up h_o0) (by decide))
              clear z933 z934 z935 z936 z937 z938
              have q965 := J949.keep t932 (by decide) q943
              have t966 := J949.up t944
              refine mv_aload_n d_TrustDeskModel_readClause_171 rfl rfl ?_
              obtain ⟨a968, q967, t_a968⟩ := tm_atR I950 t954 (k := 12) rfl
              refine tr_getK q967 d_TrustDeskModel_readClause_172 f_TrustDeskModel_41_13 ?_
              refine mv_iload_n d_TrustDeskModel_readClause_175 rfl rfl ?_
              refine mv_aload_n d_TrustDeskModel_readClause_176 rfl rfl ?_
              obtain ⟨a970, q969, t_a970⟩ := tm_atR I950 t954 (k := 5) rfl
              refine tr_getK q969 d_TrustDeskModel_readClause_177 f_TrustDeskModel_20_13 ?_
              refine mv_bipush (v := 44) d_TrustDeskModel_readClause_180 (by decide) ?_
              refine tr_ialdR (o := o0) (k := 5) I950 q969 t_a970 (by decide) d_TrustDeskModel_readClause_182 (by unfold vp_in; decide) (fun v971 e972 => ?_)
              have := R952.a (k := 5) rfl (44 : Int32).toNatClampNeg
              have : v971.toInt = ra M946 o0 5 44 := e972
              have : v971.toInt = _ := Eq.trans e972 z957
              refine tr_iastR (k := 12) I950 R952 (I950.up h_o0) q967 t_a968 (by decide) (by decide) (fun lo hi h => by cases h; have := R952.1 15 _ _ rfl; have := R952.1 16 _ _ rfl; have := R952.1 19 _ _ rfl; have := E962.f yS; exact ⟨by show (0 : Int) ≤ v971.toInt; omega, by show v971.toInt ≤ (400 : Int); omega⟩) (Or.inl (by decide)) d_TrustDeskModel_readClause_183 (vp_in_iff.mpr (by have := R952.1 15 _ _ rfl; have := R952.1 16 _ _ rfl; have := R952.1 19 _ _ rfl; have := E962.f yS; omega)) (fun M973 I974 K975 R976 E977 A978 V979 => ?_)
              have z980 := (V979 15)
              have z981 := (V979 16)
              have z982 := (V979 17)
              have z983 := (V979 19)
              have z984 := (V979 22).trans z955
              have z985 := (V979 24).trans z956
              have z986 := (A978 5 (by decide) rfl 44).trans z957
              have z987 := (A978 6 (by decide) rfl 44).trans z958
              have z988 := (A978 7 (by decide) rfl ((880 + ra M0 o0 6 44).toNat)).trans z959
              have z989 := (A978 10 (by decide) rfl ((880 + ra M0 o0 6 44).toNat)).trans z960
              have z990 := (A978 8 (by decide) rfl ((880 + ra M0 o0 6 44).toNat)).trans z961
              have E991 : rE M0 M973 o0 0 2 := E962.same (fun k _ _ => V979 k) (fun k h1 h2 => A978 k (by omega) (by rcases (show k = 4 ∨ k = 5 by omega) with rfl | rfl <;> rfl))
              have h992 : (880 + ra M0 o0 6 44).toNat = v899.toNatClampNeg := by have := mz_nat9 (i := v899) (by have := R952.1 15 _ _ rfl; have := R952.1 16 _ _ rfl; have := R952.1 19 _ _ rfl; have := E962.f yS; omega); have := R952.1 15 _ _ rfl; have := R952.1 16 _ _ rfl; have := R952.1 19 _ _ rfl; have := E962.f yS; omega
              have z993 : ra M973 o0 12 ((880 + ra M0 o0 6 44).toNat) = v971.toInt := (E977 _).trans (if_pos h992)
              have K994 : rK M0 M973 o0 ((880 + ra M0 o0 6 44).toNat) := K963.st A978 E977 (by have := mz_nat9 (i := v899) (by have := R952.1 15 _ _ rfl; have := R952.1 16 _ _ rfl; have := R952.1 19 _ _ rfl; have := E962.f yS; omega); have := R952.1 15 _ _ rfl; have := R952.1 16 _ _ rfl; have := R952.1 19 _ _ rfl; have := E962.f yS; omega)
              have K995 : nN M973 o0 := K964.same (sA_a A978 (by decide)) (sF_a V979)
              clear z955 z956 z957 z958 z959 z960 z961
              exact mv_vret d_TrustDeskModel_readClause_184 rfl ⟨_, I974, rfl, R976, (rW.of E991.1 (fun w9 => (by have := R976.1 15 _ _ rfl; have := R976.1 16 _ _ rfl; have := R976.1 19 _ _ rfl; have := E991.f yS; omega)) (fun w9 => rG.step yG yR E991 w9 K994 (by have := yR.2 6 _ _ rfl 44; omega) (by have := R976.1 15 _ _ rfl; have := R976.1 16 _ _ rfl; have := R976.1 19 _ _ rfl; have := E991.f yS; omega) (by have := R976.1 15 _ _ rfl; have := R976.1 16 _ _ rfl; have := R976.1 19 _ _ rfl; have := E991.f yS; omega) (fun h9 => by exfalso; have := R976.1 15 _ _ rfl; have := R976.1 16 _ _ rfl; have := R976.1 19 _ _ rfl; have := E991.f yS; omega) (fun h9 => (by have := R976.1 15 _ _ rfl; have := R976.1 16 _ _ rfl; have := R976.1 19 _ _ rfl; have := E991.f yS; omega)) (by have := R976.1 15 _ _ rfl; have := R976.1 16 _ _ rfl; have := R976.1 19 _ _ rfl; have := E991.f yS; omega) K995)), (rO.of E991 K994 (by have := yR.2 6 _ _ rfl 44; omega)), (by have := R976.1 15 _ _ rfl; have := R976.1 16 _ _ rfl; have := R976.1 19 _ _ rfl; have := E991.f yS; omega), (by have := R976.1 15 _ _ rfl; have := R976.1 16 _ _ rfl; have := R976.1 19 _ _ rfl; have := E991.f yS; omega), (fun h9 _ => absurd h9 (f16 (by have := R976.1 15 _ _ rfl; have := R976.1 16 _ _ rfl; have := R976.1 19 _ _ rfl; have := E991.f yS; omega))), (by have := R976.1 15 _ _ rfl; have := R976.1 16 _ _ rfl; have := R976.1 19 _ _ rfl; have := E991.f yS; omega)⟩
      · refine mv_aload_n d_TrustDeskModel_readClause_32 rfl rfl ?_
        refine mv_iconst (v := 1) d_TrustDeskModel_readClause_33 (by decide) ?_
        obtain ⟨_, b1002, -⟩ := I619.1 _ _ t626
        have : (1 : Int32).toInt = 1 := by decide
        refine mv_callV (kc' := 0) (ks' := 0) (As := [.int 1]) (st9 := [.int 1, .ref o0]) d_TrustDeskModel_readClause_34 lV_TrustDeskModel_240 b1002 rfl (tc_TrustDeskModel_fails_x (d := (d + 25)) (x9 := x9) (o0 := o0) (x1 := 1) t626 R624 (by decide) I619.start) rfl (Nat.le_of_ble_eq_true rfl) (Nat.le_of_ble_eq_true rfl) (Nat.le_of_ble_eq_true rfl) (hst := rfl) (fun b996r M997 n998 b996 => ?_)
        obtain ⟨T999, J1000, rfl, R1003, f1004⟩ := b996
        have I1001 := I619.call J1000 (tm_sub (by decide)) (Or.inl rfl)
        have t1005 := J1000.up t626
        have z1006 := (rv_c I619 J1000 (I619.up h_o0) (k := 15) rfl).trans z627
        have z1007 := (rv_c I619 J1000 (I619.up h_o0) (k := 16) rfl).trans z628
        have z1008 := (rv_c I619 J1000 (I619.up h_o0) (k := 17) rfl).trans z629
        have z1009 := (rv_c I619 J1000 (I619.up h_o0) (k := 22) rfl).trans z631
        have z1010 := (rv_c I619 J1000 (I619.up h_o0) (k := 24) rfl).trans z632
        have z1011 := (ra_call I619 J1000 (I619.up h_o0) (k := 5) rfl rfl rfl 44).trans z633
        have z1012 := (ra_call I619 J1000 (I619.up h_o0) (k := 6) rfl rfl rfl 44).trans z634
        have E1013 : rE M0 M997 o0 0 0 := E635.fails (rE_hv I619 J1000 (I619.up h_o0) 15 18 (by decide)) (rE_ha I619 J1000 (I619.up h_o0) (by decide)) f1004 0 0
        have K1014 : rK M0 M997 o0 ((880 + ra M0 o0 6 44).toNat) := K636.same (sA_c I619 J1000 (I619.up h_o0) (by decide))
        have K1015 : nN M997 o0 := K637.same (sA_c I619 J1000 (I619.up h_o0) (by decide)) (sF_c I619 J1000 (I619.up h_o0) (by decide))
        clear z627 z628 z629 z631 z632 z633 z634
        refine mv_goto (tgt := 70) d_TrustDeskModel_readClause_37 (by decide) ?_
        refine mv_aload_n d_TrustDeskModel_readClause_70 rfl rfl ?_
        obtain ⟨_, b1016, -⟩ := I1001.1 _ _ t1005
        refine mv_callV (kc1 := 0) (ks1 := 0) (kc' := 0) (ks' := 0) (As := []) (st9 := [.ref o0]) d_TrustDeskModel_readClause_71 lV_TrustDeskModel_230 b1016 rfl (mj_enter (by decide) (Nat.le_of_ble_eq_true rfl) ?_) rfl (Nat.le_of_ble_eq_true rfl) (Nat.le_of_ble_eq_true rfl) (Nat.le_of_ble_eq_true rfl) (hst := rfl) (fun _ _ _ h => h)
        refine mv_aload_n d_TrustDeskModel_isWell_0 rfl rfl ?_
        obtain ⟨v1018, q1017⟩ := tm_atI I1001 t1005 (k := 19) rfl
        refine tr_getK q1017 d_TrustDeskModel_isWell_1 f_TrustDeskModel_224_13 ?_
        have := R1003.f (k := 19) q1017 rfl
        have := tm_rv q1017
        refine mv_if_neZ (tgt := 11) (a := v1018.toInt) d_TrustDeskModel_isWell_4 (by decide) rfl (fun b1019 => ?_) (fun b1019 => ?_)
        · refine mv_iconst (v := 0) d_TrustDeskModel_isWell_11 (by decide) ?_
          refine mv_iret d_TrustDeskModel_isWell_12 rfl (by decide) ?_
          refine mv_if_ne_f (tgt := 78) d_TrustDeskModel_readClause_74 (by decide) (by decide) ?_
          exact mv_vret d_TrustDeskModel_readClause_77 rfl ⟨_, I1001, rfl, R1003, (rW.of E1013.1 (fun h9 => absurd h9 (by have := R1003.1 15 _ _ rfl; have := R1003.1 16 _ _ rfl; have := R1003.1 19 _ _ rfl; have := E1013.f yS; omega)) (fun h9 => absurd h9 (by have := R1003.1 15 _ _ rfl; have := R1003.1 16 _ _ rfl; have := R1003.1 19 _ _ rfl; have := E1013.f yS; omega))), (rO.of E1013 K1014 (by have := yR.2 6 _ _ rfl 44; omega)), (by have := R1003.1 15 _ _ rfl; have := R1003.1 16 _ _ rfl; have := R1003.1 19 _ _ rfl; have := E1013.f yS; omega), (by have := R1003.1 15 _ _ rfl; have := R1003.1 16 _ _ rfl; have := R1003.1 19 _ _ rfl; have := E1013.f yS; omega), (fun _ h9 => absurd h9 (by have := R1003.1 15 _ _ rfl; have := R1003.1 16 _ _ rfl; have := R1003.1 19 _ _ rfl; have := E1013.f yS; omega)), (by have := R1003.1 15 _ _ rfl; have := R1003.1 16 _ _ rfl; have := R1003.1 19 _ _ rfl; have := E1013.f yS; omega)⟩
        · exfalso
          have := R1003.1 15 _ _ rfl; have := R1003.1 16 _ _ rfl; have := R1003.1 19 _ _ rfl; have := E1013.f yS; omega
