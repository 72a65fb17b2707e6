abbrev kY_TrustDeskModel_readClause : mj_Y := (⟨"TrustDeskModel", "readClause", "()V"⟩, prog_14_method_38_code, 4, (Option.none : Option Jvm.ClassFile.FieldType))
theorem d_TrustDeskModel_readClause_0 : decode kY_TrustDeskModel_readClause.2.1 0 = .ok (.aload_n 0, 1) := by decide +kernel
theorem d_TrustDeskModel_readClause_1 : decode kY_TrustDeskModel_readClause.2.1 1 = .ok (.ldc_w 336, 3) := by decide +kernel
theorem d_TrustDeskModel_readClause_4 : decode kY_TrustDeskModel_readClause.2.1 4 = .ok (.invokevirtual 244, 3) := by decide +kernel
def w_TrustDeskModel_isWord_s1_42_x : List Nat := []
theorem tc_TrustDeskModel_isWord_s1_42_x {g : mj_G} {l : Launch} {d : Nat} {T0 : tm_H} {M0 : mj_M} {n0 x9 : Nat} {o0 : Nat} (h_o0 : T0 o0 = some (0, 13, 0)) (yR : rI M0 o0) (I0 : tm_I tm_FT (tm_in w_TrustDeskModel_isWord_s1_42_x) x9 T0 M0 n0 T0 M0 n0) : mj_Met g l kY_TrustDeskModel_isWord (d + 4) [.ref o0, .ref 42] M0 n0 0 0 (tm_Q tm_FT (tm_in w_TrustDeskModel_isWord_s1_42_x) x9 T0 M0 n0 (fun r _ M => ∃ v : Int32, r = some (.int v) ∧ 0 ≤ v.toInt ∧ v.toInt ≤ 1 ∧ rI M o0 ∧ (v.toInt = 1 → rv M0 o0 17 = 3) ∧ (v.toInt = 1 → rwE M0 o0) ∧ (v.toInt = 0 → ¬ rwE M0 o0))) := by
  refine mj_enter (by decide) (Nat.le_of_ble_eq_true rfl) ?_
  refine mv_aload_n d_TrustDeskModel_isWord_0 rfl rfl ?_
  obtain ⟨v2, q1⟩ := tm_atI I0 h_o0 (k := 17) rfl
  refine tr_getK q1 d_TrustDeskModel_isWord_1 f_TrustDeskModel_198_13 ?_
  have := tm_rv q1
  refine mv_iconst (v := 3) d_TrustDeskModel_isWord_4 (by decide) ?_
  have := mz_hi v2
  refine mv_icmp_neZ (tgt := 24) (a := v2.toInt) (b := 3) d_TrustDeskModel_isWord_5 (by decide) rfl (by decide) (fun b3 => ?_) (fun b3 => ?_)
  · refine mv_iconst (v := 0) d_TrustDeskModel_isWord_24 (by decide) ?_
    exact mv_iret d_TrustDeskModel_isWord_25 rfl (by decide) ⟨_, I0, _, rfl, by decide, by decide, yR, (fun h => absurd h (by decide)), (fun h => absurd h (by decide)), (fun _ h => by obtain ⟨h1, h2, h3, h4, h5⟩ := h; have := yR.1 15 _ _ rfl; have := yR.1 16 _ _ rfl; have := yR.1 19 _ _ rfl; omega)⟩
  · refine mv_aload_n d_TrustDeskModel_isWord_8 rfl rfl ?_
    obtain ⟨v5, q4⟩ := tm_atI I0 h_o0 (k := 15) rfl
    refine tr_getK q4 d_TrustDeskModel_isWord_9 f_TrustDeskModel_192_13 ?_
    have := yR.f (k := 15) q4 rfl
    have := tm_rv q4
    refine mv_aload_n d_TrustDeskModel_isWord_12 rfl rfl ?_
    obtain ⟨v7, q6⟩ := tm_atI I0 h_o0 (k := 16) rfl
    refine tr_getK q6 d_TrustDeskModel_isWord_13 f_TrustDeskModel_195_13 ?_
    have := yR.f (k := 16) q6 rfl
    have := tm_rv q6
    refine mv_isub d_TrustDeskModel_isWord_16 ?_
    refine mv_aload_n d_TrustDeskModel_isWord_17 rfl rfl ?_
    refine mv_slenK (i := 32) (v := 3) d_TrustDeskModel_isWord_18 lV_TrustDeskModel_214 (by decide) rfl (by decide) (Nat.le_of_ble_eq_true rfl) ?_
    have b8 : (v5 - v7 : Int32).toInt = (v5.toInt - v7.toInt) := mz_sub2 rfl rfl (by have := yR.1 15 _ _ rfl; have := yR.1 16 _ _ rfl; have := yR.1 19 _ _ rfl; omega) (by have := yR.1 15 _ _ rfl; have := yR.1 16 _ _ rfl; have := yR.1 19 _ _ rfl; omega)
    have := mz_hi (v5 - v7)
    refine mv_icmp_eqZ (tgt := 26) (a := (v5 - v7).toInt) (b := 3) d_TrustDeskModel_isWord_21 (by decide) rfl (by decide) (fun b9 => ?_) (fun b9 => ?_)
    · refine mv_iconst (v := 0) d_TrustDeskModel_isWord_26 (by decide) ?_
      refine mv_istore_n (lv' := [(2, .int 0), (0, .ref o0), (1, .ref 42)]) d_TrustDeskModel_isWord_27 rfl (by decide) rfl ?_
      refine mv_iload_n d_TrustDeskModel_isWord_28 rfl rfl ?_
      refine mv_aload_n d_TrustDeskModel_isWord_29 rfl rfl ?_
      refine mv_slenK (i := 32) (v := 3) d_TrustDeskModel_isWord_30 lV_TrustDeskModel_214 (by decide) rfl (by decide) (Nat.le_of_ble_eq_true rfl) ?_
      refine mv_icmp_ge_f (tgt := 63) d_TrustDeskModel_isWord_33 (by decide) (by decide) ?_
      refine mv_aload_n d_TrustDeskModel_isWord_36 rfl rfl ?_
      obtain ⟨a11, q10, t_a11⟩ := tm_atR I0 h_o0 (k := 13) rfl
      refine tr_getK q10 d_TrustDeskModel_isWord_37 f_TrustDeskModel_44_13 ?_
      refine mv_aload_n d_TrustDeskModel_isWord_40 rfl rfl ?_
      refine tr_getK (k := 16) q6 d_TrustDeskModel_isWord_41 f_TrustDeskModel_195_13 ?_
      refine mv_iload_n d_TrustDeskModel_isWord_44 rfl rfl ?_
      refine mv_iadd d_TrustDeskModel_isWord_45 ?_
      have b12 : (v7 + 0 : Int32).toInt = (v7.toInt + 0) := mz_add2 rfl (by decide) (by have := yR.1 15 _ _ rfl; have := yR.1 16 _ _ rfl; have := yR.1 19 _ _ rfl; omega) (by have := yR.1 15 _ _ rfl; have := yR.1 16 _ _ rfl; have := yR.1 19 _ _ rfl; omega)
      refine tr_baldR (o := o0) (k := 13) I0 q10 t_a11 (by decide) d_TrustDeskModel_isWord_46 (vp_in_iff.mpr (by have := yR.1 15 _ _ rfl; have := yR.1 16 _ _ rfl; have := yR.1 19 _ _ rfl; omega)) (fun v13 e14 => ?_)
      have := yR.a (k := 13) rfl ((v7 + 0) : Int32).toNatClampNeg
      have h15 : (v7 + 0).toNatClampNeg = (rv M0 o0 16).toNat + 0 := by have := mz_nat9 (i := (v7 + 0)) (by have := yR.1 15 _ _ rfl; have := yR.1 16 _ _ rfl; have := yR.1 19 _ _ rfl; omega); have := yR.1 15 _ _ rfl; have := yR.1 16 _ _ rfl; have := yR.1 19 _ _ rfl; omega
      have : v13.toInt = ra M0 o0 13 ((rv M0 o0 16).toNat + 0) := by rw [e14, h15]
      refine mv_aload_n d_TrustDeskModel_isWord_47 rfl rfl ?_
      refine mv_iload_n d_TrustDeskModel_isWord_48 rfl rfl ?_
      refine mv_schC (i := 32) (v := 101) d_TrustDeskModel_isWord_49 lV_TrustDeskModel_220 (by decide) rfl (by decide) (by decide) (Nat.le_of_ble_eq_true rfl) (by decide) ?_
      have := mz_hi v13
      refine mv_icmp_eqZ (tgt := 57) (a := v13.toInt) (b := 101) d_TrustDeskModel_isWord_52 (by decide) rfl (by decide) (fun b16 => ?_) (fun b16 => ?_)
      · refine mv_iinc (v := 1) (lv' := [(2, .int 1), (0, .ref o0), (1, .ref 42)]) d_TrustDeskModel_isWord_57 rfl (by decide) (by decide) rfl ?_
        refine mv_goto (tgt := 28) d_TrustDeskModel_isWord_60 (by decide) ?_
        refine mv_iload_n d_TrustDeskModel_isWord_28 rfl rfl ?_
        refine mv_aload_n d_TrustDeskModel_isWord_29 rfl rfl ?_
        refine mv_slenK (i := 32) (v := 3) d_TrustDeskModel_isWord_30 lV_TrustDeskModel_214 (by decide) rfl (by decide) (Nat.le_of_ble_eq_true rfl) ?_
        refine mv_icmp_ge_f (tgt := 63) d_TrustDeskModel_isWord_33 (by decide) (by decide) ?_
        refine mv_aload_n d_TrustDeskModel_isWord_36 rfl rfl ?_
        refine tr_getK (k := 13) q10 d_TrustDeskModel_isWord_37 f_TrustDeskModel_44_13 ?_
        refine mv_aload_n d_TrustDeskModel_isWord_40 rfl rfl ?_
        refine tr_getK (k := 16) q6 d_TrustDeskModel_isWord_41 f_TrustDeskModel_195_13 ?_
        refine mv_iload_n d_TrustDeskModel_isWord_44 rfl rfl ?_
        refine mv_iadd d_TrustDeskModel_isWord_45 ?_
        have b17 : (v7 + 1 : Int32).toInt = (v7.toInt + 1) := mz_add2 rfl (by decide) (by have := yR.1 15 _ _ rfl; have := yR.1 16 _ _ rfl; have := yR.1 19 _ _ rfl; omega) (by have := yR.1 15 _ _ rfl; have := yR.1 16 _ _ rfl; have := yR.1 19 _ _ rfl; omega)
        refine tr_baldR (o := o0) (k := 13) I0 q10 t_a11 (by decide) d_TrustDeskModel_isWord_46 (vp_in_iff.mpr (by have := yR.1 15 _ _ rfl; have := yR.1 16 _ _ rfl; have := yR.1 19 _ _ rfl; omega)) (fun v18 e19 => ?_)
        have := yR.a (k := 13) rfl ((v7 + 1) : Int32).toNatClampNeg
        have h20 : (v7 + 1).toNatClampNeg = (rv M0 o0 16).toNat + 1 := by have := mz_nat9 (i := (v7 + 1)) (by have := yR.1 15 _ _ rfl; have := yR.1 16 _ _ rfl; have := yR.1 19 _ _ rfl; omega); have := yR.1 15 _ _ rfl; have := yR.1 16 _ _ rfl; have := yR.1 19 _ _ rfl; omega
        have : v18.toInt = ra M0 o0 13 ((rv M0 o0 16).toNat + 1) := by rw [e19, h20]
        refine mv_aload_n d_TrustDeskModel_isWord_47 rfl rfl ?_
        refine mv_iload_n d_TrustDeskModel_isWord_48 rfl rfl ?_
        refine mv_schC (i := 32) (v := 110) d_TrustDeskModel_isWord_49 lV_TrustDeskModel_220 (by decide) rfl (by decide) (by decide) (Nat.le_of_ble_eq_true rfl) (by decide) ?_
        have := mz_hi v18
        refine mv_icmp_eqZ (tgt := 57) (a := v18.toInt) (b := 110) d_TrustDeskModel_isWord_52 (by decide) rfl (by decide) (fun b21 => ?_) (fun b21 => ?_)
        · refine mv_iinc (v := 2) (lv' := [(2, .int 2), (0, .ref o0), (1, .ref 42)]) d_TrustDeskModel_isWord_57 rfl (by decide) (by decide) rfl ?_
          refine mv_goto (tgt := 28) d_TrustDeskModel_isWord_60 (by decide) ?_
          refine mv_iload_n d_TrustDeskModel_isWord_28 rfl rfl ?_
          refine mv_aload_n d_TrustDeskModel_isWord_29 rfl rfl ?_
          refine mv_slenK (i := 32) (v := 3) d_TrustDeskModel_isWord_30 lV_TrustDeskModel_214 (by decide) rfl (by decide) (Nat.le_of_ble_eq_true rfl) ?_
          refine mv_icmp_ge_f (tgt := 63) d_TrustDeskModel_isWord_33 (by decide) (by decide) ?_
          refine mv_aload_n d_TrustDeskModel_isWord_36 rfl rfl ?_
          refine tr_getK (k := 13) q10 d_TrustDeskModel_isWord_37 f_TrustDeskModel_44_13 ?_
          refine mv_aload_n d_TrustDeskModel_isWord_40 rfl rfl ?_
          refine tr_getK (k := 16) q6 d_TrustDeskModel_isWord_41 f_TrustDeskModel_195_13 ?_
          refine mv_iload_n d_TrustDeskModel_isWord_44 rfl rfl ?_
          refine mv_iadd d_TrustDeskModel_isWord_45 ?_
          have b22 : (v7 + 2 : Int32).toInt = (v7.toInt + 2) := mz_add2 rfl (by decide) (by have := yR.1 15 _ _ rfl; have := yR.1 16 _ _ rfl; have := yR.1 19 _ _ rfl; omega) (by have := yR.1 15 _ _ rfl; have := yR.1 16 _ _ rfl; have := yR.1 19 _ _ rfl; omega)
          refine tr_baldR (o := o0) (k := 13) I0 q10 t_a11 (by decide) d_TrustDeskModel_isWord_46 (vp_in_iff.mpr (by have := yR.1 15 _ _ rfl; have := yR.1 16 _ _ rfl; have := yR.1 19 _ _ rfl; omega)) (fun v23 e24 => ?_)
          have := yR.a (k := 13) rfl ((v7 + 2) : Int32).toNatClampNeg
          have h25 : (v7 + 2).toNatClampNeg = (rv M0 o0 16).toNat + 2 := by have := mz_nat9 (i := (v7 + 2)) (by have := yR.1 15 _ _ rfl; have := yR.1 16 _ _ rfl; have := yR.1 19 _ _ rfl; omega); have := yR.1 15 _ _ rfl; have := yR.1 16 _ _ rfl; have := yR.1 19 _ _ rfl; omega
          have : v23.toInt = ra M0 o0 13 ((rv M0 o0 16).toNat + 2) := by rw [e24, h25]
          refine mv_aload_n d_TrustDeskModel_isWord_47 rfl rfl ?_
          refine mv_iload_n d_TrustDeskModel_isWord_48 rfl rfl ?_
          refine mv_schC (i := 32) (v := 100) d_TrustDeskModel_isWord_49 lV_TrustDeskModel_220 (by decide) rfl (by decide) (by decide) (Nat.le_of_ble_eq_true rfl) (by decide) ?_
          have := mz_hi v23
          refine mv_icmp_eqZ (tgt := 57) (a := v23.toInt) (b := 100) d_TrustDeskModel_isWord_52 (by decide) rfl (by decide) (fun b26 => ?_) (fun b26 => ?_)
          · refine mv_iinc (v := 3) (lv' := [(2, .int 3), (0, .ref o0), (1, .ref 42)]) d_TrustDeskModel_isWord_57 rfl (by decide) (by decide) rfl ?_
            refine mv_goto (tgt := 28) d_TrustDeskModel_isWord_60 (by decide) ?_
            refine mv_iload_n d_TrustDeskModel_isWord_28 rfl rfl ?_
            refine mv_aload_n d_TrustDeskModel_isWord_29 rfl rfl ?_
            refine mv_slenK (i := 32) (v := 3) d_TrustDeskModel_isWord_30 lV_TrustDeskModel_214 (by decide) rfl (by decide) (Nat.le_of_ble_eq_true rfl) ?_
            refine mv_icmp_ge_t (tgt := 63) d_TrustDeskModel_isWord_33 (by decide) (by decide) ?_
            refine mv_iconst (v := 1) d_TrustDeskModel_isWord_63 (by decide) ?_
            exact mv_iret d_TrustDeskModel_isWord_64 rfl (by decide) ⟨_, I0, _, rfl, by decide, by decide, yR, (fun _ => by have := yR.1 15 _ _ rfl; have := yR.1 16 _ _ rfl; have := yR.1 19 _ _ rfl; omega), (fun _ => ⟨by have := yR.1 15 _ _ rfl; have := yR.1 16 _ _ rfl; have := yR.1 19 _ _ rfl; omega, by have := yR.1 15 _ _ rfl; have := yR.1 16 _ _ rfl; have := yR.1 19 _ _ rfl; omega, by have := yR.1 15 _ _ rfl; have := yR.1 16 _ _ rfl; have := yR.1 19 _ _ rfl; omega, by have := yR.1 15 _ _ rfl; have := yR.1 16 _ _ rfl; have := yR.1 19 _ _ rfl; omega, by have := yR.1 15 _ _ rfl; have := yR.1 16 _ _ rfl; have := yR.1 19 _ _ rfl; omega⟩), (fun h => absurd h (by decide))⟩
          · refine mv_iconst (v := 0) d_TrustDeskModel_isWord_55 (by decide) ?_
            exact mv_iret d_TrustDeskModel_isWord_56 rfl (by decide) ⟨_, I0, _, rfl, by decide, by decide, yR, (fun h => absurd h (by decide)), (fun h => absurd h (by decide)), (fun _ h => by obtain ⟨h1, h2, h3, h4, h5⟩ := h; have := yR.1 15 _ _ rfl; have := yR.1 16 _ _ rfl; have := yR.1 19 _ _ rfl; omega)⟩
        · refine mv_iconst (v := 0) d_TrustDeskModel_isWord_55 (by decide) ?_
          exact mv_iret d_TrustDeskModel_isWord_56 rfl (by decide) ⟨_, I0, _, rfl, by decide, by decide, yR, (fun h => absurd h (by decide)), (fun h => absurd h (by decide)), (fun _ h => by obtain ⟨h1, h2, h3, h4, h5⟩ := h; have := yR.1 15 _ _ rfl; have := yR.1 16 _ _ rfl; have := yR.1 19 _ _ rfl; omega)⟩
      · refine mv_iconst (v := 0) d_TrustDeskModel_isWord_55 (by decide) ?_
        exact mv_iret d_TrustDeskModel_isWord_56 rfl (by decide) ⟨_, I0, _, rfl, by decide, by decide, yR, (fun h => absurd h (by decide)), (fun h => absurd h (by decide)), (fun _ h => by obtain ⟨h1, h2, h3, h4, h5⟩ := h; have := yR.1 15 _ _ rfl; have := yR.1 16 _ _ rfl; have := yR.1 19 _ _ rfl; omega)⟩
    · refine mv_iconst (v := 0) d_TrustDeskModel_isWord_24 (by decide) ?_
      exact mv_iret d_TrustDeskModel_isWord_25 rfl (by decide) ⟨_, I0, _, rfl, by decide, by decide, yR, (fun h => absurd h (by decide)), (fun h => absurd h (by decide)), (fun _ h => by obtain ⟨h1, h2, h3, h4, h5⟩ := h; have := yR.1 15 _ _ rfl; have := yR.1 16 _ _ rfl; have := yR.1 19 _ _ rfl; omega)⟩
theorem d_TrustDeskModel_readClause_7 : decode kY_TrustDeskModel_readClause.2.1 7 = .ok (.istore_n 1, 1) := by decide +kernel
theorem d_TrustDeskModel_readClause_8 : decode kY_TrustDeskModel_readClause.2.1 8 = .ok (.iload_n 1, 1) := by decide +kernel
theorem d_TrustDeskModel_readClause_9 : decode kY_TrustDeskModel_readClause.2.1 9 = .ok (.ifCond .ne 31, 3) := by decide +kernel
theorem d_TrustDeskModel_readClause_40 : decode kY_TrustDeskModel_readClause.2.1 40 = .ok (.aload_n 0, 1) := by decide +kernel
theorem d_TrustDeskModel_readClause_41 : decode kY_TrustDeskModel_readClause.2.1 41 = .ok (.getfield 23, 3) := by decide +kernel
theorem d_TrustDeskModel_readClause_44 : decode kY_TrustDeskModel_readClause.2.1 44 = .ok (.bipush 44, 2) := by decide +kernel
theorem d_TrustDeskModel_readClause_46 : decode kY_TrustDeskModel_readClause.2.1 46 = .ok (.iaload, 1) := by decide +kernel
theorem d_TrustDeskModel_readClause_47 : decode kY_TrustDeskModel_readClause.2.1 47 = .ok (.bipush 12, 2) := by decide +kernel
theorem d_TrustDeskModel_readClause_49 : decode kY_TrustDeskModel_readClause.2.1 49 = .ok (.if_icmp .eq 16, 3) := by decide +kernel
theorem d_TrustDeskModel_readClause_65 : decode kY_TrustDeskModel_readClause.2.1 65 = .ok (.aload_n 0, 1) := by decide +kernel
theorem d_TrustDeskModel_readClause_66 : decode kY_TrustDeskModel_readClause.2.1 66 = .ok (.iconst 4, 1) := by decide +kernel
theorem d_TrustDeskModel_readClause_67 : decode kY_TrustDeskModel_readClause.2.1 67 = .ok (.invokevirtual 240, 3) := by decide +kernel
theorem d_TrustDeskModel_readClause_70 : decode kY_TrustDeskModel_readClause.2.1 70 = .ok (.aload_n 0, 1) := by decide +kernel
theorem d_TrustDeskModel_readClause_71 : decode kY_TrustDeskModel_readClause.2.1 71 = .ok (.invokevirtual 230, 3) := by decide +kernel
theorem d_TrustDeskModel_readClause_74 : decode kY_TrustDeskModel_readClause.2.1 74 = .ok (.ifCond .ne 4, 3) := by decide +kernel
theorem d_TrustDeskModel_readClause_77 : decode kY_TrustDeskModel_readClause.2.1 77 = .ok (.return_, 1) := by decide +kernel
theorem d_TrustDeskModel_readClause_52 : decode kY_TrustDeskModel_readClause.2.1 52 = .ok (.iload_n 1, 1) := by decide +kernel
theorem d_TrustDeskModel_readClause_53 : decode kY_TrustDeskModel_readClause.2.1 53 = .ok (.ifCond .eq 17, 3) := by decide +kernel
theorem d_TrustDeskModel_readClause_78 : decode kY_TrustDeskModel_readClause.2.1 78 = .ok (.aload_n 0, 1) := by decide +kernel
theorem d_TrustDeskModel_readClause_79 : decode kY_TrustDeskModel_readClause.2.1 79 = .ok (.ldc_w 338, 3) := by decide +kernel
theorem d_TrustDeskModel_readClause_82 : decode kY_TrustDeskModel_readClause.2.1 82 = .ok (.invokevirtual 244, 3) := by decide +kernel
def w_TrustDeskModel_isWord_s1_43_x : List Nat := []
theorem tc_TrustDeskModel_isWord_s1_43_x {g : mj_G} {l : Launch} {d : Nat} {T0 : tm_H} {M0 : mj_M} {n0 x9 : Nat} {o0 : Nat} (h_o0 : T0 o0 = some (0, 13, 0)) (yR : rI M0 o0) (I0 : tm_I tm_FT (tm_in w_TrustDeskModel_isWord_s1_43_x) x9 T0 M0 n0 T0 M0 n0) : mj_Met g l kY_TrustDeskModel_isWord (d + 4) [.ref o0, .ref 43] M0 n0 0 0 (tm_Q tm_FT (tm_in w_TrustDeskModel_isWord_s1_43_x) x9 T0 M0 n0 (fun r _ M => ∃ v : Int32, r = some (.int v) ∧ 0 ≤ v.toInt ∧ v.toInt ≤ 1 ∧ rI M o0 ∧ (v.toInt = 1 → rv M0 o0 17 = 3))) := by
  refine mj_enter (by decide) (Nat.le_of_ble_eq_true rfl) ?_
  refine mv_aload_n d_TrustDeskModel_isWord_0 rfl rfl ?_
  obtain ⟨v2, q1⟩ := tm_atI I0 h_o0 (k := 17) rfl
  refine tr_getK q1 d_TrustDeskModel_isWord_1 f_TrustDeskModel_198_13 ?_
  have := tm_rv q1
  refine mv_iconst (v := 3) d_TrustDeskModel_isWord_4 (by decide) ?_
  have := mz_hi v2
  refine mv_icmp_neZ (tgt := 24) (a := v2.toInt) (b := 3) d_TrustDeskModel_isWord_5 (by decide) rfl (by decide) (fun b3 => ?_) (fun b3 => ?_)
  · refine mv_iconst (v := 0) d_TrustDeskModel_isWord_24 (by decide) ?_
    exact mv_iret d_TrustDeskModel_isWord_25 rfl (by decide) ⟨_, I0, _, rfl, by decide, by decide, yR, (fun h => absurd h (by decide))⟩
  · refine mv_aload_n d_TrustDeskModel_isWord_8 rfl rfl ?_
    obtain ⟨v5, q4⟩ := tm_atI I0 h_o0 (k := 15) rfl
    refine tr_getK q4 d_TrustDeskModel_isWord_9 f_TrustDeskModel_192_13 ?_
    have := yR.f (k := 15) q4 rfl
    have := tm_rv q4
    refine mv_aload_n d_TrustDeskModel_isWord_12 rfl rfl ?_
    obtain ⟨v7, q6⟩ := tm_atI I0 h_o0 (k := 16) rfl
    refine tr_getK q6 d_TrustDeskModel_isWord_13 f_TrustDeskModel_195_13 ?_
    have := yR.f (k := 16) q6 rfl
    have := tm_rv q6
    refine mv_isub d_TrustDeskModel_isWord_16 ?_
    refine mv_aload_n d_TrustDeskModel_isWord_17 rfl rfl ?_
    refine mv_slenK (i := 33) (v := 4) d_TrustDeskModel_isWord_18 lV_TrustDeskModel_214 (by decide) rfl (by decide) (Nat.le_of_ble_eq_true rfl) ?_
    have b8 : (v5 - v7 : Int32).toInt = (v5.toInt - v7.toInt) := mz_sub2 rfl rfl (by have := yR.1 15 _ _ rfl; have := yR.1 16 _ _ rfl; have := yR.1 19 _ _ rfl; omega) (by have := yR.1 15 _ _ rfl; have := yR.1 16 _ _ rfl; have := yR.1 19 _ _ rfl; omega)
    have := mz_hi (v5 - v7)
    refine mv_icmp_eqZ (tgt := 26) (a := (v5 - v7).toInt) (b := 4) d_TrustDeskModel_isWord_21 (by decide) rfl (by decide) (fun b9 => ?_) (fun b9 => ?_)
    · refine mv_iconst (v := 0) d_TrustDeskModel_isWord_26 (by decide) ?_
      refine mv_istore_n (lv' := [(2, .int 0), (0, .ref o0), (1, .ref 43)]) d_TrustDeskModel_isWord_27 rfl (by decide) rfl ?_
      have L28_10 : ∀ (k : Nat) (i2_10 : Int32) (T_10 : tm_H) (M_10 : mj_M) (n_10 : Nat), tm_I tm_FT (tm_in w_TrustDeskModel_isWord_s1_43_x) x9 T0 M0 n0 T_10 M_10 n_10 → T_10 o0 = some (0, 13, 0) → 0 ≤ i2_10.toInt → rv M_10 o0 15 = rv M0 o0 15 → rv M_10 o0 16 = rv M0 o0 16 → i2_10.toInt ≤ 2147483646 → (rI M_10 o0) → 2147483647 - i2_10.toInt < (k : Int) → mj_V g l kY_TrustDeskModel_isWord (d + 4) 28 [(2, .int i2_10), (0, .ref o0), (1, .ref 43)] [] M_10 n_10 0 0 (tm_Q tm_FT (tm_in w_TrustDeskModel_isWord_s1_43_x) x9 T0 M0 n0 (fun r _ M => ∃ v : Int32, r = some (.int v) ∧ 0 ≤ v.toInt ∧ v.toInt ≤ 1 ∧ rI M o0 ∧ (v.toInt = 1 → rv M0 o0 17 = 3))) := by
        intro k10
        induction k10 with
        | zero =>
          intro i2_10 T_10 M_10 n_10 I_10 h_q0_10 iv0_10 iv1_10 iv2_10 iv3_10 kKR_10 hk10
          have := mz_hi i2_10
          have := kKR_10.1 15 _ _ rfl
          have := kKR_10.1 16 _ _ rfl
          have := kKR_10.1 19 _ _ rfl
          omega
        | succ k10 ih10 =>
          intro i2_10 T_10 M_10 n_10 I_10 h_q0_10 iv0_10 iv1_10 iv2_10 iv3_10 kKR_10 hk10
          refine mv_iload_n d_TrustDeskModel_isWord_28 rfl rfl ?_
          refine mv_aload_n d_TrustDeskModel_isWord_29 rfl rfl ?_
          refine mv_slenK (i := 33) (v := 4) d_TrustDeskModel_isWord_30 lV_TrustDeskModel_214 (by decide) rfl (by decide) (Nat.le_of_ble_eq_true rfl) ?_
          have := mz_hi i2_10
          refine mv_icmp_geZ (tgt := 63) (a := i2_10.toInt) (b := 4) d_TrustDeskModel_isWord_33 (by decide) rfl (by decide) (fun b11 => ?_) (fun b11 => ?_)
          · refine mv_iconst (v := 1) d_TrustDeskModel_isWord_63 (by decide) ?_
            exact mv_iret d_TrustDeskModel_isWord_64 rfl (by decide) ⟨_, I_10, _, rfl, by decide, by decide, kKR_10, (fun _ => by omega)⟩
          · refine mv_aload_n d_TrustDeskModel_isWord_36 rfl rfl ?_
            obtain ⟨a13, q12, t_a13⟩ := tm_atR I_10 h_q0_10 (k := 13) rfl
            refine tr_getK q12 d_TrustDeskModel_isWord_37 f_TrustDeskModel_44_13 ?_
            refine mv_aload_n d_TrustDeskModel_isWord_40 rfl rfl ?_
            obtain ⟨v15, q14⟩ := tm_atI I_10 h_q0_10 (k := 16) rfl
            refine tr_getK q14 d_TrustDeskModel_isWord_41 f_TrustDeskModel_195_13 ?_
            have := kKR_10.f (k := 16) q14 rfl
            have := tm_rv q14
            refine mv_iload_n d_TrustDeskModel_isWord_44 rfl rfl ?_
            refine mv_iadd d_TrustDeskModel_isWord_45 ?_
            have b16 : (v15 + i2_10 : Int32).toInt = (v15.toInt + i2_10.toInt) := mz_add2 rfl rfl (by have := kKR_10.1 15 _ _ rfl; have := kKR_10.1 16 _ _ rfl; have := kKR_10.1 19 _ _ rfl; omega) (by have := kKR_10.1 15 _ _ rfl; have := kKR_10.1 16 _ _ rfl; have := kKR_10.1 19 _ _ rfl; omega)
            refine tr_baldR (o := o0) (k := 13) I_10 q12 t_a13 (by decide) d_TrustDeskModel_isWord_46 (vp_in_iff.mpr (by have := kKR_10.1 15 _ _ rfl; have := kKR_10.1 16 _ _ rfl; have := kKR_10.1 19 _ _ rfl; omega)) (fun v17 e18 => ?_)
            have := kKR_10.a (k := 13) rfl ((v15 + i2_10) : Int32).toNatClampNeg
            refine mv_aload_n d_TrustDeskModel_isWord_47 rfl rfl ?_
            refine mv_iload_n d_TrustDeskModel_isWord_48 rfl rfl ?_
            refine mv_schN (i := 33) (N := 4) d_TrustDeskModel_isWord_49 lV_TrustDeskModel_220 (by decide) rfl rfl (by omega) (by omega) (Nat.le_of_ble_eq_true rfl) (fun v19 => ?_)
            have := mz_hi v17
            have := mz_hi v19
            refine mv_icmp_eqZ (tgt := 57) (a := v17.toInt) (b := v19.toInt) d_TrustDeskModel_isWord_52 (by decide) rfl rfl (fun b20 => ?_) (fun b20 => ?_)
            · refine mv_iinc (v := (i2_10 + 1)) (lv' := [(2, .int (i2_10 + 1)), (0, .ref o0), (1, .ref 43)]) d_TrustDeskModel_isWord_57 rfl rfl (by decide) rfl ?_
              refine mv_goto (tgt := 28) d_TrustDeskModel_isWord_60 (by decide) ?_
              have b21 : (i2_10 + 1).toInt = i2_10.toInt + 1 := mz_addn 1 1 (by decide) (by have := mz_lo i2_10; omega) (by have := mz_hi i2_10; omega)
              exact (ih10 (i2_10 + 1) T_10 M_10 n_10 I_10 h_q0_10 (by have := kKR_10.1 15 _ _ rfl; have := kKR_10.1 16 _ _ rfl; have := kKR_10.1 19 _ _ rfl; first | omega | decide | exact fun h9 => absurd (by decide) h9) (by have := kKR_10.1 15 _ _ rfl; have := kKR_10.1 16 _ _ rfl; have := kKR_10.1 19 _ _ rfl; first | omega | decide | exact fun h9 => absurd (by decide) h9) (by have := kKR_10.1 15 _ _ rfl; have := kKR_10.1 16 _ _ rfl; have := kKR_10.1 19 _ _ rfl; first | omega | decide | exact fun h9 => absurd (by decide) h9) (by have := kKR_10.1 15 _ _ rfl; have := kKR_10.1 16 _ _ rfl; have := kKR_10.1 19 _ _ rfl; first | omega | decide | exact fun h9 => absurd (by decide) h9) kKR_10 (by have := kKR_10.1 15 _ _ rfl; have := kKR_10.1 16 _ _ rfl; have := kKR_10.1 19 _ _ rfl; omega))
            · refine mv_iconst (v := 0) d_TrustDeskModel_isWord_55 (by decide) ?_
              exact mv_iret d_TrustDeskModel_isWord_56 rfl (by decide) ⟨_, I_10, _, rfl, by decide, by decide, kKR_10, (fun h => absurd h (by decide))⟩
      exact mv_less (Nat.zero_le _) (Nat.zero_le _) (L28_10 4294967296 0 T0 M0 n0 I0 h_o0 (by have := yR.1 15 _ _ rfl; have := yR.1 16 _ _ rfl; have := yR.1 19 _ _ rfl; first | omega | decide | exact fun h9 => absurd (by decide) h9) (by have := yR.1 15 _ _ rfl; have := yR.1 16 _ _ rfl; have := yR.1 19 _ _ rfl; first | omega | decide | exact fun h9 => absurd (by decide) h9) (by have := yR.1 15 _ _ rfl; have := yR.1 16 _ _ rfl; have := yR.1 19 _ _ rfl; first | omega | decide | exact fun h9 => absurd (by decide) h9) (by have := yR.1 15 _ _ rfl; have := yR.1 16 _ _ rfl; have := yR.1 19 _ _ rfl; first | omega | decide | exact fun h9 => absurd (by decide) h9) yR (by show (2147483647 - (0 : Int) : Int) < _; decide))
    · refine mv_iconst (v := 0) d_TrustDeskModel_isWord_24 (by decide) ?_
      exact mv_iret d_TrustDeskModel_isWord_25 rfl (by decide) ⟨_, I0, _, rfl, by decide, by decide, yR, (fun h => absurd h (by decide))⟩
theorem d_TrustDeskModel_readClause_85 : decode kY_TrustDeskModel_readClause.2.1 85 = .ok (.istore_n 2, 1) := by decide +kernel
theorem d_TrustDeskModel_readClause_86 : decode kY_TrustDeskModel_readClause.2.1 86 = .ok (.aload_n 0, 1) := by decide +kernel
theorem d_TrustDeskModel_readClause_87 : decode kY_TrustDeskModel_readClause.2.1 87 = .ok (.iload_n 1, 1) := by decide +kernel
theorem d_TrustDeskModel_readClause_88 : decode kY_TrustDeskModel_readClause.2.1 88 = .ok (.ifCond .eq 8, 3) := by decide +kernel
theorem d_TrustDeskModel_readClause_96 : decode kY_TrustDeskModel_readClause.2.1 96 = .ok (.iload_n 2, 1) := by decide +kernel
theorem d_TrustDeskModel_readClause_97 : decode kY_TrustDeskModel_readClause.2.1 97 = .ok (.ifCond .eq 8, 3) := by decide +kernel
theorem d_TrustDeskModel_readClause_105 : decode kY_TrustDeskModel_readClause.2.1 105 = .ok (.bipush 9, 2) := by decide +kernel
theorem d_TrustDeskModel_readClause_107 : decode kY_TrustDeskModel_readClause.2.1 107 = .ok (.invokevirtual 342, 3) := by decide +kernel
theorem lV_TrustDeskModel_342 : mj_lV "TrustDeskModel" 342 kY_TrustDeskModel_begin 1 := ⟨⟨(mj_in1 (List.mem_of_getElem? (i := 1691) (by decide +kernel)) rfl), (mj_in1 (List.mem_of_getElem? (i := 10) (by decide +kernel)) rfl), (mj_in1 (List.mem_of_getElem? (i := 1694) (by decide +kernel)) rfl), by decide, rfl, by decide⟩, (mj_in1 (List.mem_of_getElem? (i := 1693) (by decide +kernel)) rfl), (mj_in (List.mem_append_left _ (List.mem_of_getElem? (i := 88) (by decide +kernel))) rfl)⟩
theorem d_TrustDeskModel_readClause_110 : decode kY_TrustDeskModel_readClause.2.1 110 = .ok (.istore_n 3, 1) := by decide +kernel
theorem d_TrustDeskModel_readClause_111 : decode kY_TrustDeskModel_readClause.2.1 111 = .ok (.iload_n 1, 1) := by decide +kernel
theorem d_TrustDeskModel_readClause_112 : decode kY_TrustDeskModel_readClause.2.1 112 = .ok (.ifCond .eq 11, 3) := by decide +kernel
theorem d_TrustDeskModel_readClause_123 : decode kY_TrustDeskModel_readClause.2.1 123 = .ok (.iload_n 2, 1) := by decide +kernel
theorem d_TrustDeskModel_readClause_124 : decode kY_TrustDeskModel_readClause.2.1 124 = .ok (.ifCond .eq 11, 3) := by decide +kernel
theorem d_TrustDeskModel_readClause_135 : decode kY_TrustDeskModel_readClause.2.1 135 = .ok (.aload_n 0, 1) := by decide +kernel
theorem d_TrustDeskModel_readClause_136 : decode kY_TrustDeskModel_readClause.2.1 136 = .ok (.getfield 29, 3) := by decide +kernel
theorem d_TrustDeskModel_readClause_139 : decode kY_TrustDeskModel_readClause.2.1 139 = .ok (.iload_n 3, 1) := by decide +kernel
theorem d_TrustDeskModel_readClause_140 : decode kY_TrustDeskModel_readClause.2.1 140 = .ok (.aload_n 0, 1) := by decide +kernel
theorem d_TrustDeskModel_readClause_141 : decode kY_TrustDeskModel_readClause.2.1 141 = .ok (.iconst 1, 1) := by decide +kernel
theorem d_TrustDeskModel_readClause_142 : decode kY_TrustDeskModel_readClause.2.1 142 = .ok (.bipush 7, 2) := by decide +kernel
theorem d_TrustDeskModel_readClause_144 : decode kY_TrustDeskModel_readClause.2.1 144 = .ok (.invokevirtual 317, 3) := by decide +kernel
theorem d_TrustDeskModel_readClause_147 : decode kY_TrustDeskModel_readClause.2.1 147 = .ok (.iastore, 1) := by decide +kernel
theorem d_TrustDeskModel_readClause_148 : decode kY_TrustDeskModel_readClause.2.1 148 = .ok (.aload_n 0, 1) := by decide +kernel
theorem d_TrustDeskModel_readClause_149 : decode kY_TrustDeskModel_readClause.2.1 149 = .ok (.getfield 32, 3) := by decide +kernel
theorem f_TrustDeskModel_32_13 : mj_fl "TrustDeskModel" 32 13 9 := ⟨kR_TrustDeskModel, kF_TrustDeskModel, 72, "TrustDeskModel", rfl, kg_13, by decide, (mj_in1 (List.mem_of_getElem? (i := 1395) (by decide +kernel)) rfl), Or.inl rfl⟩
theorem d_TrustDeskModel_readClause_152 : decode kY_TrustDeskModel_readClause.2.1 152 = .ok (.iload_n 3, 1) := by decide +kernel
theorem d_TrustDeskModel_readClause_153 : decode kY_TrustDeskModel_readClause.2.1 153 = .ok (.aload_n 0, 1) := by decide +kernel
theorem d_TrustDeskModel_readClause_154 : decode kY_TrustDeskModel_readClause.2.1 154 = .ok (.iconst 1, 1) := by decide +kernel
theorem d_TrustDeskModel_readClause_155 : decode kY_TrustDeskModel_readClause.2.1 155 = .ok (.aload_n 0, 1) := by decide +kernel
theorem d_TrustDeskModel_readClause_156 : decode kY_TrustDeskModel_readClause.2.1 156 = .ok (.getfield 29, 3) := by decide +kernel
theorem d_TrustDeskModel_readClause_159 : decode kY_TrustDeskModel_readClause.2.1 159 = .ok (.iload_n 3, 1) := by decide +kernel
theorem d_TrustDeskModel_readClause_160 : decode kY_TrustDeskModel_readClause.2.1 160 = .ok (.iaload, 1) := by decide +kernel
theorem d_TrustDeskModel_readClause_161 : decode kY_TrustDeskModel_readClause.2.1 161 = .ok (.invokevirtual 317, 3) := by decide +kernel
theorem d_TrustDeskModel_readClause_164 : decode kY_TrustDeskModel_readClause.2.1 164 = .ok (.iastore, 1) := by decide +kernel
theorem d_TrustDeskModel_readClause_165 : decode kY_TrustDeskModel_readClause.2.1 165 = .ok (.aload_n 0, 1) := by decide +kernel
theorem d_TrustDeskModel_readClause_166 : decode kY_TrustDeskModel_readClause.2.1 166 = .ok (.bipush 59, 2) := by decide +kernel
theorem d_TrustDeskModel_readClause_168 : decode kY_TrustDeskModel_readClause.2.1 168 = .ok (.invokevirtual 291, 3) := by decide +kernel
theorem d_TrustDeskModel_readClause_171 : decode kY_TrustDeskModel_readClause.2.1 171 = .ok (.aload_n 0, 1) := by decide +kernel
theorem d_TrustDeskModel_readClause_172 : decode kY_TrustDeskModel_readClause.2.1 172 = .ok (.getfield 41, 3) := by decide +kernel
theorem f_TrustDeskModel_41_13 : mj_fl "TrustDeskModel" 41 13 12 := ⟨kR_TrustDeskModel, kF_TrustDeskModel, 72, "TrustDeskModel", rfl, kg_13, by decide, (mj_in1 (List.mem_of_getElem? (i := 1398) (by decide +kernel)) rfl), Or.inl rfl⟩
theorem d_TrustDeskModel_readClause_175 : decode kY_TrustDeskModel_readClause.2.1 175 = .ok (.iload_n 3, 1) := by decide +kernel
theorem d_TrustDeskModel_readClause_176 : decode kY_TrustDeskModel_readClause.2.1 176 = .ok (.aload_n 0, 1) := by decide +kernel
theorem d_TrustDeskModel_readClause_177 : decode kY_TrustDeskModel_readClause.2.1 177 = .ok (.getfield 20, 3) := by decide +kernel
theorem d_TrustDeskModel_readClause_180 : decode kY_TrustDeskModel_readClause.2.1 180 = .ok (.bipush 44, 2) := by decide +kernel
theorem d_TrustDeskModel_readClause_182 : decode kY_TrustDeskModel_readClause.2.1 182 = .ok (.iaload, 1) := by decide +kernel
theorem d_TrustDeskModel_readClause_183 : decode kY_TrustDeskModel_readClause.2.1 183 = .ok (.iastore, 1) := by decide +kernel
theorem d_TrustDeskModel_readClause_184 : decode kY_TrustDeskModel_readClause.2.1 184 = .ok (.return_, 1) := by decide +kernel
theorem d_TrustDeskModel_readClause_100 : decode kY_TrustDeskModel_readClause.2.1 100 = .ok (.bipush 7, 2) := by decide +kernel
theorem d_TrustDeskModel_readClause_102 : decode kY_TrustDeskModel_readClause.2.1 102 = .ok (.goto 5, 3) := by decide +kernel
theorem d_TrustDeskModel_readClause_127 : decode kY_TrustDeskModel_readClause.2.1 127 = .ok (.aload_n 0, 1) := by decide +kernel
theorem d_TrustDeskModel_readClause_128 : decode kY_TrustDeskModel_readClause.2.1 128 = .ok (.iload_n 3, 1) := by decide +kernel
theorem d_TrustDeskModel_readClause_129 : decode kY_TrustDeskModel_readClause.2.1 129 = .ok (.invokevirtual 348, 3) := by decide +kernel
theorem lV_TrustDeskModel_348 : mj_lV "TrustDeskModel" 348 kY_TrustDeskModel_readMarks 1 := ⟨⟨(mj_in1 (List.mem_of_getElem? (i := 1812) (by decide +kernel)) rfl), (mj_in1 (List.mem_of_getElem? (i := 10) (by decide +kernel)) rfl), (mj_in1 (List.mem_of_getElem? (i := 1815) (by decide +kernel)) rfl), by decide, rfl, by decide⟩, (mj_in1 (List.mem_of_getElem? (i := 1814) (by decide +kernel)) rfl), (mj_in (List.mem_append_left _ (List.mem_of_getElem? (i := 109) (by decide +kernel))) rfl)⟩
theorem d_TrustDeskModel_readClause_132 : decode kY_TrustDeskModel_readClause.2.1 132 = .ok (.goto 33, 3) := by decide +kernel
theorem d_TrustDeskModel_readClause_56 : decode kY_TrustDeskModel_readClause.2.1 56 = .ok (.aload_n 0, 1) := by decide +kernel
theorem d_TrustDeskModel_readClause_57 : decode kY_TrustDeskModel_readClause.2.1 57 = .ok (.getfield 321, 3) := by decide +kernel
theorem d_TrustDeskModel_readClause_60 : decode kY_TrustDeskModel_readClause.2.1 60 = .ok (.bipush 6, 2) := by decide +kernel
theorem d_TrustDeskModel_readClause_62 : decode kY_TrustDeskModel_readClause.2.1 62 = .ok (.if_icmp .ne 8, 3) := by decide +kernel
theorem d_TrustDeskModel_readClause_91 : decode kY_TrustDeskModel_readClause.2.1 91 = .ok (.bipush 8, 2) := by decide +kernel
theorem d_TrustDeskModel_readClause_93 : decode kY_TrustDeskModel_readClause.2.1 93 = .ok (.goto 14, 3) := by decide +kernel
theorem d_TrustDeskModel_readClause_115 : decode kY_TrustDeskModel_readClause.2.1 115 = .ok (.aload_n 0, 1) := by decide +kernel
theorem d_TrustDeskModel_readClause_116 : decode kY_TrustDeskModel_readClause.2.1 116 = .ok (.iload_n 3, 1) := by decide +kernel
theorem d_TrustDeskModel_readClause_117 : decode kY_TrustDeskModel_readClause.2.1 117 = .ok (.invokevirtual 345, 3) := by decide +kernel
abbrev kY_TrustDeskModel_readEnd : mj_Y := (⟨"TrustDeskModel", "readEnd", "(I)V"⟩, prog_14_method_37_code, 2, (Option.none : Option Jvm.ClassFile.FieldType))
theorem lV_TrustDeskModel_345 : mj_lV "TrustDeskModel" 345 kY_TrustDeskModel_readEnd 1 := ⟨⟨(mj_in1 (List.mem_of_getElem? (i := 1802) (by decide +kernel)) rfl), (mj_in1 (List.mem_of_getElem? (i := 10) (by decide +kernel)) rfl), (mj_in1 (List.mem_of_getElem? (i := 1805) (by decide +kernel)) rfl), by decide, rfl, by decide⟩, (mj_in1 (List.mem_of_getElem? (i := 1804) (by decide +kernel)) rfl), (mj_in (List.mem_append_left _ (List.mem_of_getElem? (i := 107) (by decide +kernel))) rfl)⟩
theorem d_TrustDeskModel_readEnd_0 : decode kY_TrustDeskModel_readEnd.2.1 0 = .ok (.aload_n 0, 1) := by decide +kernel
theorem d_TrustDeskModel_readEnd_1 : decode kY_TrustDeskModel_readEnd.2.1 1 = .ok (.getfield 198, 3) := by decide +kernel
theorem d_TrustDeskModel_readEnd_4 : decode kY_TrustDeskModel_readEnd.2.1 4 = .ok (.iconst 3, 1) := by decide +kernel
theorem d_TrustDeskModel_readEnd_5 : decode kY_TrustDeskModel_readEnd.2.1 5 = .ok (.if_icmp .ne 17, 3) := by decide +kernel
theorem d_TrustDeskModel_readEnd_22 : decode kY_TrustDeskModel_readEnd.2.1 22 = .ok (.aload_n 0, 1) := by decide +kernel
theorem d_TrustDeskModel_readEnd_23 : decode kY_TrustDeskModel_readEnd.2.1 23 = .ok (.iconst 1, 1) := by decide +kernel
theorem d_TrustDeskModel_readEnd_24 : decode kY_TrustDeskModel_readEnd.2.1 24 = .ok (.invokevirtual 240, 3) := by decide +kernel
theorem d_TrustDeskModel_readEnd_27 : decode kY_TrustDeskModel_readEnd.2.1 27 = .ok (.goto 15, 3) := by decide +kernel
theorem d_TrustDeskModel_readEnd_42 : decode kY_TrustDeskModel_readEnd.2.1 42 = .ok (.aload_n 0, 1) := by decide +kernel
theorem d_TrustDeskModel_readEnd_43 : decode kY_TrustDeskModel_readEnd.2.1 43 = .ok (.invokevirtual 230, 3) := by decide +kernel
theorem d_TrustDeskModel_readEnd_46 : decode kY_TrustDeskModel_readEnd.2.1 46 = .ok (.ifCond .ne 4, 3) := by decide +kernel
theorem d_TrustDeskModel_readEnd_49 : decode kY_TrustDeskModel_readEnd.2.1 49 = .ok (.return_, 1) := by decide +kernel
theorem d_TrustDeskModel_readClause_120 : decode kY_TrustDeskModel_readClause.2.1 120 = .ok (.goto 45, 3) := by decide +kernel
theorem d_TrustDeskModel_readEnd_8 : decode kY_TrustDeskModel_readEnd.2.1 8 = .ok (.aload_n 0, 1) := by decide +kernel
theorem d_TrustDeskModel_readEnd_9 : decode kY_TrustDeskModel_readEnd.2.1 9 = .ok (.getfield 192, 3) := by decide +kernel
theorem d_TrustDeskModel_readEnd_12 : decode kY_TrustDeskModel_readEnd.2.1 12 = .ok (.aload_n 0, 1) := by decide +kernel
theorem d_TrustDeskModel_readEnd_13 : decode kY_TrustDeskModel_readEnd.2.1 13 = .ok (.getfield 195, 3) := by decide +kernel
theorem d_TrustDeskModel_readEnd_16 : decode kY_TrustDeskModel_readEnd.2.1 16 = .ok (.isub, 1) := by decide +kernel
theorem d_TrustDeskModel_readEnd_17 : decode kY_TrustDeskModel_readEnd.2.1 17 = .ok (.bipush 8, 2) := by decide +kernel
theorem d_TrustDeskModel_readEnd_19 : decode kY_TrustDeskModel_readEnd.2.1 19 = .ok (.if_icmp .le 11, 3) := by decide +kernel
theorem d_TrustDeskModel_readEnd_30 : decode kY_TrustDeskModel_readEnd.2.1 30 = .ok (.aload_n 0, 1) := by decide +kernel
theorem d_TrustDeskModel_readEnd_31 : decode kY_TrustDeskModel_readEnd.2.1 31 = .ok (.invokevirtual 324, 3) := by decide +kernel
theorem lV_TrustDeskModel_324 : mj_lV "TrustDeskModel" 324 kY_TrustDeskModel_isThere 0 := ⟨⟨(mj_in1 (List.mem_of_getElem? (i := 1806) (by decide +kernel)) rfl), (mj_in1 (List.mem_of_getElem? (i := 10) (by decide +kernel)) rfl), (mj_in1 (List.mem_of_getElem? (i := 1809) (by decide +kernel)) rfl), by decide, rfl, by decide⟩, (mj_in1 (List.mem_of_getElem? (i := 1808) (by decide +kernel)) rfl), (mj_in (List.mem_append_left _ (List.mem_of_getElem? (i := 108) (by decide +kernel))) rfl)⟩
theorem d_TrustDeskModel_readEnd_34 : decode kY_TrustDeskModel_readEnd.2.1 34 = .ok (.ifCond .eq 8, 3) := by decide +kernel
theorem d_TrustDeskModel_readEnd_50 : decode kY_TrustDeskModel_readEnd.2.1 50 = .ok (.aload_n 0, 1) := by decide +kernel
theorem d_TrustDeskModel_readEnd_51 : decode kY_TrustDeskModel_readEnd.2.1 51 = .ok (.getfield 51, 3) := by decide +kernel
theorem d_TrustDeskModel_readEnd_54 : decode kY_TrustDeskModel_readEnd.2.1 54 = .ok (.aload_n 0, 1) := by decide +kernel
theorem d_TrustDeskModel_readEnd_55 : decode kY_TrustDeskModel_readEnd.2.1 55 = .ok (.getfield 321, 3) := by decide +kernel
theorem d_TrustDeskModel_readEnd_58 : decode kY_TrustDeskModel_readEnd.2.1 58 = .ok (.aload_n 0, 1) := by decide +kernel
theorem d_TrustDeskModel_readEnd_59 : decode kY_TrustDeskModel_readEnd.2.1 59 = .ok (.getfield 195, 3) := by decide +kernel
theorem d_TrustDeskModel_readEnd_62 : decode kY_TrustDeskModel_readEnd.2.1 62 = .ok (.iastore, 1) := by decide +kernel
theorem d_TrustDeskModel_readEnd_63 : decode kY_TrustDeskModel_readEnd.2.1 63 = .ok (.aload_n 0, 1) := by decide +kernel
theorem d_TrustDeskModel_readEnd_64 : decode kY_TrustDeskModel_readEnd.2.1 64 = .ok (.getfield 54, 3) := by decide +kernel
theorem d_TrustDeskModel_readEnd_67 : decode kY_TrustDeskModel_readEnd.2.1 67 = .ok (.aload_n 0, 1) := by decide +kernel
theorem d_TrustDeskModel_readEnd_68 : decode kY_TrustDeskModel_readEnd.2.1 68 = .ok (.getfield 321, 3) := by decide +kernel
theorem d_TrustDeskModel_readEnd_71 : decode kY_TrustDeskModel_readEnd.2.1 71 = .ok (.aload_n 0, 1) := by decide +kernel
theorem d_TrustDeskModel_readEnd_72 : decode kY_TrustDeskModel_readEnd.2.1 72 = .ok (.getfield 192, 3) := by decide +kernel
theorem d_TrustDeskModel_readEnd_75 : decode kY_TrustDeskModel_readEnd.2.1 75 = .ok (.aload_n 0, 1) := by decide +kernel
theorem d_TrustDeskModel_readEnd_76 : decode kY_TrustDeskModel_readEnd.2.1 76 = .ok (.getfield 195, 3) := by decide +kernel
theorem d_TrustDeskModel_readEnd_79 : decode kY_TrustDeskModel_readEnd.2.1 79 = .ok (.isub, 1) := by decide +kernel
theorem d_TrustDeskModel_readEnd_80 : decode kY_TrustDeskModel_readEnd.2.1 80 = .ok (.iastore, 1) := by decide +kernel
theorem d_TrustDeskModel_readEnd_81 : decode kY_TrustDeskModel_readEnd.2.1 81 = .ok (.aload_n 0, 1) := by decide +kernel
theorem d_TrustDeskModel_readEnd_82 : decode kY_TrustDeskModel_readEnd.2.1 82 = .ok (.getfield 29, 3) := by decide +kernel
theorem d_TrustDeskModel_readEnd_85 : decode kY_TrustDeskModel_readEnd.2.1 85 = .ok (.iload_n 1, 1) := by decide +kernel
theorem d_TrustDeskModel_readEnd_86 : decode kY_TrustDeskModel_readEnd.2.1 86 = .ok (.aload_n 0, 1) := by decide +kernel
theorem d_TrustDeskModel_readEnd_87 : decode kY_TrustDeskModel_readEnd.2.1 87 = .ok (.getfield 192, 3) := by decide +kernel
theorem d_TrustDeskModel_readEnd_90 : decode kY_TrustDeskModel_readEnd.2.1 90 = .ok (.aload_n 0, 1) := by decide +kernel
theorem d_TrustDeskModel_readEnd_91 : decode kY_TrustDeskModel_readEnd.2.1 91 = .ok (.getfield 195, 3) := by decide +kernel
theorem d_TrustDeskModel_readEnd_94 : decode kY_TrustDeskModel_readEnd.2.1 94 = .ok (.isub, 1) := by decide +kernel
theorem d_TrustDeskModel_readEnd_95 : decode kY_TrustDeskModel_readEnd.2.1 95 = .ok (.iastore, 1) := by decide +kernel
theorem d_TrustDeskModel_readEnd_96 : decode kY_TrustDeskModel_readEnd.2.1 96 = .ok (.aload_n 0, 1) := by decide +kernel
theorem d_TrustDeskModel_readEnd_97 : decode kY_TrustDeskModel_readEnd.2.1 97 = .ok (.dup, 1) := by decide +kernel
theorem d_TrustDeskModel_readEnd_98 : decode kY_TrustDeskModel_readEnd.2.1 98 = .ok (.getfield 321, 3) := by decide +kernel
theorem d_TrustDeskModel_readEnd_101 : decode kY_TrustDeskModel_readEnd.2.1 101 = .ok (.iconst 1, 1) := by decide +kernel
theorem d_TrustDeskModel_readEnd_102 : decode kY_TrustDeskModel_readEnd.2.1 102 = .ok (.iadd, 1) := by decide +kernel
theorem d_TrustDeskModel_readEnd_103 : decode kY_TrustDeskModel_readEnd.2.1 103 = .ok (.putfield 321, 3) := by decide +kernel
theorem d_TrustDeskModel_readEnd_106 : decode kY_TrustDeskModel_readEnd.2.1 106 = .ok (.aload_n 0, 1) := by decide +kernel
theorem d_TrustDeskModel_readEnd_107 : decode kY_TrustDeskModel_readEnd.2.1 107 = .ok (.invokevirtual 237, 3) := by decide +kernel
theorem d_TrustDeskModel_readEnd_110 : decode kY_TrustDeskModel_readEnd.2.1 110 = .ok (.aload_n 0, 1) := by decide +kernel
theorem d_TrustDeskModel_readEnd_111 : decode kY_TrustDeskModel_readEnd.2.1 111 = .ok (.ldc_w 327, 3) := by decide +kernel
theorem d_TrustDeskModel_readEnd_114 : decode kY_TrustDeskModel_readEnd.2.1 114 = .ok (.invokevirtual 329, 3) := by decide +kernel
abbrev kY_TrustDeskModel_wantWord : mj_Y := (⟨"TrustDeskModel", "wantWord", "(Ljava/lang/String;)V"⟩, prog_14_method_22_code, 2, (Option.none : Option Jvm.ClassFile.FieldType))
theorem d_TrustDeskModel_wantWord_0 : decode kY_TrustDeskModel_wantWord.2.1 0 = .ok (.aload_n 0, 1) := by decide +kernel
theorem d_TrustDeskModel_wantWord_1 : decode kY_TrustDeskModel_wantWord.2.1 1 = .ok (.invokevirtual 230, 3) := by decide +kernel
theorem d_TrustDeskModel_wantWord_4 : decode kY_TrustDeskModel_wantWord.2.1 4 = .ok (.ifCond .ne 4, 3) := by decide +kernel
theorem d_TrustDeskModel_wantWord_7 : decode kY_TrustDeskModel_wantWord.2.1 7 = .ok (.return_, 1) := by decide +kernel
theorem d_TrustDeskModel_wantWord_8 : decode kY_TrustDeskModel_wantWord.2.1 8 = .ok (.aload_n 0, 1) := by decide +kernel
theorem d_TrustDeskModel_wantWord_9 : decode kY_TrustDeskModel_wantWord.2.1 9 = .ok (.aload_n 1, 1) := by decide +kernel
theorem d_TrustDeskModel_wantWord_10 : decode kY_TrustDeskModel_wantWord.2.1 10 = .ok (.invokevirtual 244, 3) := by decide +kernel
def w_TrustDeskModel_isWord_s1_45_x : List Nat := []
theorem tc_TrustDeskModel_isWord_s1_45_x {g : mj_G} {l : Launch} {d : Nat} {T0 : tm_H} {M0 : mj_M} {n0 x9 : Nat} {o0 : Nat} (h_o0 : T0 o0 = some (0, 13, 0)) (yR : rI M0 o0) (I0 : tm_I tm_FT (tm_in w_TrustDeskModel_isWord_s1_45_x) x9 T0 M0 n0 T0 M0 n0) : mj_Met g l kY_TrustDeskModel_isWord (d + 4) [.ref o0, .ref 45] M0 n0 0 0 (tm_Q tm_FT (tm_in w_TrustDeskModel_isWord_s1_45_x) x9 T0 M0 n0 (fun r _ M => ∃ v : Int32, r = some (.int v) ∧ 0 ≤ v.toInt ∧ v.toInt ≤ 1 ∧ rI M o0 ∧ (v.toInt = 1 → rv M0 o0 17 = 3))) := by
  refine mj_enter (by decide) (Nat.le_of_ble_eq_true rfl) ?_
  refine mv_aload_n d_TrustDeskModel_isWord_0 rfl rfl ?_
  obtain ⟨v2, q1⟩ := tm_atI I0 h_o0 (k := 17) rfl
  refine tr_getK q1 d_TrustDeskModel_isWord_1 f_TrustDeskModel_198_13 ?_
  have := tm_rv q1
  refine mv_iconst (v := 3) d_TrustDeskModel_isWord_4 (by decide) ?_
  have := mz_hi v2
  refine mv_icmp_neZ (tgt := 24) (a := v2.toInt) (b := 3) d_TrustDeskModel_isWord_5 (by decide) rfl (by decide) (fun b3 => ?_) (fun b3 => ?_)
  · refine mv_iconst (v := 0) d_TrustDeskModel_isWord_24 (by decide) ?_
    exact mv_iret d_TrustDeskModel_isWord_25 rfl (by decide) ⟨_, I0, _, rfl, by decide, by decide, yR, (fun h => absurd h (by decide))⟩
  · refine mv_aload_n d_TrustDeskModel_isWord_8 rfl rfl ?_
    obtain ⟨v5, q4⟩ := tm_atI I0 h_o0 (k := 15) rfl
    refine tr_getK q4 d_TrustDeskModel_isWord_9 f_TrustDeskModel_192_13 ?_
    have := yR.f (k := 15) q4 rfl
    have := tm_rv q4
    refine mv_aload_n d_TrustDeskModel_isWord_12 rfl rfl ?_
    obtain ⟨v7, q6⟩ := tm_atI I0 h_o0 (k := 16) rfl
    refine tr_getK q6 d_TrustDeskModel_isWord_13 f_TrustDeskModel_195_13 ?_
    have := yR.f (k := 16) q6 rfl
    have := tm_rv q6
    refine mv_isub d_TrustDeskModel_isWord_16 ?_
    refine mv_aload_n d_TrustDeskModel_isWord_17 rfl rfl ?_
    refine mv_slenK (i := 35) (v := 4) d_TrustDeskModel_isWord_18 lV_TrustDeskModel_214 (by decide) rfl (by decide) (Nat.le_of_ble_eq_true rfl) ?_
    have b8 : (v5 - v7 : Int32).toInt = (v5.toInt - v7.toInt) := mz_sub2 rfl rfl (by have := yR.1 15 _ _ rfl; have := yR.1 16 _ _ rfl; have := yR.1 19 _ _ rfl; omega) (by have := yR.1 15 _ _ rfl; have := yR.1 16 _ _ rfl; have := yR.1 19 _ _ rfl; omega)
    have := mz_hi (v5 - v7)
    refine mv_icmp_eqZ (tgt := 26) (a := (v5 - v7).toInt) (b := 4) d_TrustDeskModel_isWord_21 (by decide) rfl (by decide) (fun b9 => ?_) (fun b9 => ?_)
    · refine mv_iconst (v := 0) d_TrustDeskModel_isWord_26 (by decide) ?_
      refine mv_istore_n (lv' := [(2, .int 0), (0, .ref o0), (1, .ref 45)]) d_TrustDeskModel_isWord_27 rfl (by decide) rfl ?_
      have L28_10 : ∀ (k : Nat) (i2_10 : Int32) (T_10 : tm_H) (M_10 : mj_M) (n_10 : Nat), tm_I tm_FT (tm_in w_TrustDeskModel_isWord_s1_45_x) x9 T0 M0 n0 T_10 M_10 n_10 → T_10 o0 = some (0, 13, 0) → 0 ≤ i2_10.toInt → rv M_10 o0 15 = rv M0 o0 15 → rv M_10 o0 16 = rv M0 o0 16 → i2_10.toInt ≤ 2147483646 → (rI M_10 o0) → 2147483647 - i2_10.toInt < (k : Int) → mj_V g l kY_TrustDeskModel_isWord (d + 4) 28 [(2, .int i2_10), (0, .ref o0), (1, .ref 45)] [] M_10 n_10 0 0 (tm_Q tm_FT (tm_in w_TrustDeskModel_isWord_s1_45_x) x9 T0 M0 n0 (fun r _ M => ∃ v : Int32, r = some (.int v) ∧ 0 ≤ v.toInt ∧ v.toInt ≤ 1 ∧ rI M o0 ∧ (v.toInt = 1 → rv M0 o0 17 = 3))) := by
        intro k10
        induction k10 with
        | zero =>
          intro i2_10 T_10 M_10 n_10 I_10 h_q0_10 iv0_10 iv1_10 iv2_10 iv3_10 kKR_10 hk10
          have := mz_hi i2_10
          have := kKR_10.1 15 _ _ rfl
          have := kKR_10.1 16 _ _ rfl
          have := kKR_10.1 19 _ _ rfl
          omega
        | succ k10 ih10 =>
          intro i2_10 T_10 M_10 n_10 I_10 h_q0_10 iv0_10 iv1_10 iv2_10 iv3_10 kKR_10 hk10
          refine mv_iload_n d_TrustDeskModel_isWord_28 rfl rfl ?_
          refine mv_aload_n d_TrustDeskModel_isWord_29 rfl rfl ?_
          refine mv_slenK (i := 35) (v := 4) d_TrustDeskModel_isWord_30 lV_TrustDeskModel_214 (by decide) rfl (by decide) (Nat.le_of_ble_eq_true rfl) ?_
          have := mz_hi i2_10
          refine mv_icmp_geZ (tgt := 63) (a := i2_10.toInt) (b := 4) d_TrustDeskModel_isWord_33 (by decide) rfl (by decide) (fun b11 => ?_) (fun b11 => ?_)
          · refine mv_iconst (v := 1) d_TrustDeskModel_isWord_63 (by decide) ?_
            exact mv_iret d_TrustDeskModel_isWord_64 rfl (by decide) ⟨_, I_10, _, rfl, by decide, by decide, kKR_10, (fun _ => by omega)⟩
          · refine mv_aload_n d_TrustDeskModel_isWord_36 rfl rfl ?_
            obtain ⟨a13, q12, t_a13⟩ := tm_atR I_10 h_q0_10 (k := 13) rfl
            refine tr_getK q12 d_TrustDeskModel_isWord_37 f_TrustDeskModel_44_13 ?_
            refine mv_aload_n d_TrustDeskModel_isWord_40 rfl rfl ?_
            obtain ⟨v15, q14⟩ := tm_atI I_10 h_q0_10 (k := 16) rfl
            refine tr_getK q14 d_TrustDeskModel_isWord_41 f_TrustDeskModel_195_13 ?_
            have := kKR_10.f (k := 16) q14 rfl
            have := tm_rv q14
            refine mv_iload_n d_TrustDeskModel_isWord_44 rfl rfl ?_
            refine mv_iadd d_TrustDeskModel_isWord_45 ?_
            have b16 : (v15 + i2_10 : Int32).toInt = (v15.toInt + i2_10.toInt) := mz_add2 rfl rfl (by have := kKR_10.1 15 _ _ rfl; have := kKR_10.1 16 _ _ rfl; have := kKR_10.1 19 _ _ rfl; omega) (by have := kKR_10.1 15 _ _ rfl; have := kKR_10.1 16 _ _ rfl; have := kKR_10.1 19 _ _ rfl; omega)
            refine tr_baldR (o := o0) (k := 13) I_10 q12 t_a13 (by decide) d_TrustDeskModel_isWord_46 (vp_in_iff.mpr (by have := kKR_10.1 15 _ _ rfl; have := kKR_10.1 16 _ _ rfl; have := kKR_10.1 19 _ _ rfl; omega)) (fun v17 e18 => ?_)
            have := kKR_10.a (k := 13) rfl ((v15 + i2_10) : Int32).toNatClampNeg
            refine mv_aload_n d_TrustDeskModel_isWord_47 rfl rfl ?_
            refine mv_iload_n d_TrustDeskModel_isWord_48 rfl rfl ?_
            refine mv_schN (i := 35) (N := 4) d_TrustDeskModel_isWord_49 lV_TrustDeskModel_220 (by decide) rfl rfl (by omega) (by omega) (Nat.le_of_ble_eq_true rfl) (fun v19 => ?_)
            have := mz_hi v17
            have := mz_hi v19
            refine mv_icmp_eqZ (tgt := 57) (a := v17.toInt) (b := v19.toInt) d_TrustDeskModel_isWord_52 (by decide) rfl rfl (fun b20 => ?_) (fun b20 => ?_)
            · refine mv_iinc (v := (i2_10 + 1)) (lv' := [(2, .int (i2_10 + 1)), (0, .ref o0), (1, .ref 45)]) d_TrustDeskModel_isWord_57 rfl rfl (by decide) rfl ?_
              refine mv_goto (tgt := 28) d_TrustDeskModel_isWord_60 (by decide) ?_
              have b21 : (i2_10 + 1).toInt = i2_10.toInt + 1 := mz_addn 1 1 (by decide) (by have := mz_lo i2_10; omega) (by have := mz_hi i2_10; omega)
              exact (ih10 (i2_10 + 1) T_10 M_10 n_10 I_10 h_q0_10 (by have := kKR_10.1 15 _ _ rfl; have := kKR_10.1 16 _ _ rfl; have := kKR_10.1 19 _ _ rfl; first | omega | decide | exact fun h9 => absurd (by decide) h9) (by have := kKR_10.1 15 _ _ rfl; have := kKR_10.1 16 _ _ rfl; have := kKR_10.1 19 _ _ rfl; first | omega | decide | exact fun h9 => absurd (by decide) h9) (by have := kKR_10.1 15 _ _ rfl; have := kKR_10.1 16 _ _ rfl; have := kKR_10.1 19 _ _ rfl; first | omega | decide | exact fun h9 => absurd (by decide) h9) (by have := kKR_10.1 15 _ _ rfl; have := kKR_10.1 16 _ _ rfl; have := kKR_10.1 19 _ _ rfl; first | omega | decide | exact fun h9 => absurd (by decide) h9) kKR_10 (by have := kKR_10.1 15 _ _ rfl; have := kKR_10.1 16 _ _ rfl; have := kKR_10.1 19 _ _ rfl; omega))
            · refine mv_iconst (v := 0) d_TrustDeskModel_isWord_55 (by decide) ?_
              exact mv_iret d_TrustDeskModel_isWord_56 rfl (by decide) ⟨_, I_10, _, rfl, by decide, by decide, kKR_10, (fun h => absurd h (by decide))⟩
      exact mv_less (Nat.zero_le _) (Nat.zero_le _) (L28_10 4294967296 0 T0 M0 n0 I0 h_o0 (by have := yR.1 15 _ _ rfl; have := yR.1 16 _ _ rfl; have := yR.1 19 _ _ rfl; first | omega | decide | exact fun h9 => absurd (by decide) h9) (by have := yR.1 15 _ _ rfl; have := yR.1 16 _ _ rfl; have := yR.1 19 _ _ rfl; first | omega | decide | exact fun h9 => absurd (by decide) h9) (by have := yR.1 15 _ _ rfl; have := yR.1 16 _ _ rfl; have := yR.1 19 _ _ rfl; first | omega | decide | exact fun h9 => absurd (by decide) h9) (by have := yR.1 15 _ _ rfl; have := yR.1 16 _ _ rfl; have := yR.1 19 _ _ rfl; first | omega | decide | exact fun h9 => absurd (by decide) h9) yR (by show (2147483647 - (0 : Int) : Int) < _; decide))
    · refine mv_iconst (v := 0) d_TrustDeskModel_isWord_24 (by decide) ?_
      exact mv_iret d_TrustDeskModel_isWord_25 rfl (by decide) ⟨_, I0, _, rfl, by decide, by decide, yR, (fun h => absurd h (by decide))⟩
theorem d_TrustDeskModel_wantWord_13 : decode kY_TrustDeskModel_wantWord.2.1 13 = .ok (.ifCond .eq 10, 3) := by decide +kernel
theorem d_TrustDeskModel_wantWord_23 : decode kY_TrustDeskModel_wantWord.2.1 23 = .ok (.aload_n 0, 1) := by decide +kernel
theorem d_TrustDeskModel_wantWord_24 : decode kY_TrustDeskModel_wantWord.2.1 24 = .ok (.iconst 1, 1) := by decide +kernel
theorem d_TrustDeskModel_wantWord_25 : decode kY_TrustDeskModel_wantWord.2.1 25 = .ok (.invokevirtual 240, 3) := by decide +kernel
theorem d_TrustDeskModel_wantWord_28 : decode kY_TrustDeskModel_wantWord.2.1 28 = .ok (.return_, 1) := by decide +kernel
theorem d_TrustDeskModel_wantWord_16 : decode kY_TrustDeskModel_wantWord.2.1 16 = .ok (.aload_n 0, 1) := by decide +kernel
theorem d_TrustDeskModel_wantWord_17 : decode kY_TrustDeskModel_wantWord.2.1 17 = .ok (.invokevirtual 237, 3) := by decide +kernel
theorem d_TrustDeskModel_wantWord_20 : decode kY_TrustDeskModel_wantWord.2.1 20 = .ok (.goto 8, 3) := by decide +kernel
def w_TrustDeskModel_wantWord_s1_45_x : List Nat := [1315, 1316, 1317, 1318, 1319, 1320]
theorem tc_TrustDeskModel_wantWord_s1_45_x {g : mj_G} {l : Launch} {d : Nat} {T0 : tm_H} {M0 : mj_M} {n0 x9 : Nat} {o0 : Nat} (h_o0 : T0 o0 = some (0, 13, 0)) (yR : rI M0 o0) (yT : rT M0 o0) (yS : rv M0 o0 19 = 0 → ra M0 o0 5 44 ≤ rv M0 o0 16) (I0 : tm_I tm_FT (tm_in w_TrustDeskModel_wantWord_s1_45_x) x9 T0 M0 n0 T0 M0 n0) : mj_Met g l kY_TrustDeskModel_wantWord (d + 5) [.ref o0, .ref 45] M0 n0 0 0 (tm_Q tm_FT (tm_in w_TrustDeskModel_wantWord_s1_45_x) x9 T0 M0 n0 (fun r _ M => r = none ∧ rI M o0 ∧ (rE M0 M o0 0 1))) := by
  refine mj_enter (by decide) (Nat.le_of_ble_eq_true rfl) ?_
  have yE0 := rE.rf yT
  refine mv_aload_n d_TrustDeskModel_wantWord_0 rfl rfl ?_
  obtain ⟨_, b1, -⟩ := I0.1 _ _ h_o0
  refine mv_callV (kc1 := 0) (ks1 := 0) (kc' := 0) (ks' := 0) (As := []) (st9 := [.ref o0]) d_TrustDeskModel_wantWord_1 lV_TrustDeskModel_230 b1 rfl (mj_enter (by decide) (Nat.le_of_ble_eq_true rfl) ?_) rfl (Nat.le_of_ble_eq_true rfl) (Nat.le_of_ble_eq_true rfl) (Nat.le_of_ble_eq_true rfl) (hst := rfl) (fun _ _ _ h => h)
  refine mv_aload_n d_TrustDeskModel_isWell_0 rfl rfl ?_
  obtain ⟨v3, q2⟩ := tm_atI I0 h_o0 (k := 19) rfl
  refine tr_getK q2 d_TrustDeskModel_isWell_1 f_TrustDeskModel_224_13 ?_
  have := yR.f (k := 19) q2 rfl
  have := tm_rv q2
  have := mz_hi v3
  refine mv_if_neZ (tgt := 11) (a := v3.toInt) d_TrustDeskModel_isWell_4 (by decide) rfl (fun b4 => ?_) (fun b4 => ?_)
  · refine mv_iconst (v := 0) d_TrustDeskModel_isWell_11 (by decide) ?_
    refine mv_iret d_TrustDeskModel_isWell_12 rfl (by decide) ?_
    refine mv_if_ne_f (tgt := 8) d_TrustDeskModel_wantWord_4 (by decide) (by decide) ?_
    exact mv_vret d_TrustDeskModel_wantWord_7 rfl ⟨_, I0, rfl, yR, yE0.vac (by have := yR.1 15 _ _ rfl; have := yR.1 16 _ _ rfl; have := yR.1 19 _ _ rfl; have := yE0.f yS; omega) 0 1⟩
  · refine mv_iconst (v := 1) d_TrustDeskModel_isWell_7 (by decide) ?_
    refine mv_goto (tgt := 12) d_TrustDeskModel_isWell_8 (by decide) ?_
    refine mv_iret d_TrustDeskModel_isWell_12 rfl (by decide) ?_
    refine mv_if_ne_t (tgt := 8) d_TrustDeskModel_wantWord_4 (by decide) (by decide) ?_
    refine mv_aload_n d_TrustDeskModel_wantWord_8 rfl rfl ?_
    refine mv_aload_n d_TrustDeskModel_wantWord_9 rfl rfl ?_
    obtain ⟨_, b11, -⟩ := I0.1 _ _ h_o0
    refine mv_callV (kc' := 0) (ks' := 0) (As := [.ref 45]) (st9 := [.ref 45, .ref o0]) d_TrustDeskModel_wantWord_10 lV_TrustDeskModel_244 b11 rfl (tc_TrustDeskModel_isWord_s1_45_x (d := d) (x9 := x9) (o0 := o0) h_o0 yR I0.start) rfl (Nat.le_of_ble_eq_true rfl) (Nat.le_of_ble_eq_true rfl) (Nat.le_of_ble_eq_true rfl) (hst := rfl) (fun b5r M6 n7 b5 => ?_)
    obtain ⟨T8, J9, v12, rfl, b13, b14, R15, f16⟩ := b5
    have I10 := I0.call J9 (tm_sub (by decide)) (Or.inl rfl)
    have t17 := J9.up h_o0
    have := (rv_c I0 J9 (I0.up h_o0) (k := 16) rfl)
    have := (rv_c I0 J9 (I0.up h_o0) (k := 17) rfl)
    have := (rv_c I0 J9 (I0.up h_o0) (k := 19) rfl)
    have := (rv_c I0 J9 (I0.up h_o0) (k := 22) rfl)
    have E18 : rE M0 M6 o0 0 0 := yE0.same (rE_hv I0 J9 (I0.up h_o0) 15 19 (by decide)) (rE_ha I0 J9 (I0.up h_o0) (by decide))
    have q19 := J9.keep h_o0 (by decide) q2
    have := mz_hi v12
    refine mv_if_eqZ (tgt := 23) (a := v12.toInt) d_TrustDeskModel_wantWord_13 (by decide) rfl (fun b20 => ?_) (fun b20 => ?_)
    · refine mv_aload_n d_TrustDeskModel_wantWord_23 rfl rfl ?_
      refine mv_iconst (v := 1) d_TrustDeskModel_wantWord_24 (by decide) ?_
      obtain ⟨_, b27, -⟩ := I10.1 _ _ t17
      have : (1 : Int32).toInt = 1 := by decide
      refine mv_callV (kc' := 0) (ks' := 0) (As := [.int 1]) (st9 := [.int 1, .ref o0]) d_TrustDeskModel_wantWord_25 lV_TrustDeskModel_240 b27 rfl (tc_TrustDeskModel_fails_x (d := (d + 4)) (x9 := x9) (o0 := o0) (x1 := 1) t17 R15 (by decide) I10.start) rfl (Nat.le_of_ble_eq_true rfl) (Nat.le_of_ble_eq_true rfl) (Nat.le_of_ble_eq_true rfl) (hst := rfl) (fun b21r M22 n23 b21 => ?_)
      obtain ⟨T24, J25, rfl, R28, f29⟩ := b21
      have I26 := I10.call J25 (tm_sub (by decide)) (Or.inl rfl)
      have t30 := J25.up t17
      have := (rv_c I10 J25 (I10.up h_o0) (k := 16) rfl)
      have := (rv_c I10 J25 (I10.up h_o0) (k := 17) rfl)
      have := (rv_c I10 J25 (I10.up h_o0) (k := 22) rfl)
      have E31 : rE M0 M22 o0 0 0 := E18.fails (rE_hv I10 J25 (I10.up h_o0) 15 18 (by decide)) (rE_ha I10 J25 (I10.up h_o0) (by decide)) f29 0 0
      exact mv_vret d_TrustDeskModel_wantWord_28 rfl ⟨_, I26, rfl, R28, E31.vac (by have := R28.1 15 _ _ rfl; have := R28.1 16 _ _ rfl; have := R28.1 19 _ _ rfl; have := E31.f yS; omega) 0 1⟩
    · refine mv_aload_n d_TrustDeskModel_wantWord_16 rfl rfl ?_
      obtain ⟨_, b38, -⟩ := I10.1 _ _ t17
      refine mv_callV (kc' := 0) (ks' := 0) (As := []) (st9 := [.ref o0]) d_TrustDeskModel_wantWord_17 lV_TrustDeskModel_237 b38 rfl (tc_TrustDeskModel_next_x (d := (d + 3)) (x9 := x9) (o0 := o0) t17 R15 I10.start) rfl (Nat.le_of_ble_eq_true rfl) (Nat.le_of_ble_eq_true rfl) (Nat.le_of_ble_eq_true rfl) (hst := rfl) (fun b32r M33 n34 b32 => ?_)
      obtain ⟨T35, J36, rfl, R39, f40, f41⟩ := b32
      have I37 := I10.call J36 (tm_sub (by decide)) (Or.inl rfl)
      have t42 := J36.up t17
      have := (rv_c I10 J36 (I10.up h_o0) (k := 19) rfl)
      have := (rv_c I10 J36 (I10.up h_o0) (k := 22) rfl)
      have h44 : rv M6 o0 16 + 1 ≤ rv M6 o0 15 := (by have := R15.1 15 _ _ rfl; have := R15.1 16 _ _ rfl; have := R15.1 19 _ _ rfl; have := E18.f yS; omega)
      have E43 : rE M0 M33 o0 0 1 := E18.next f40 f41 (rv_c I10 J36 (I10.up h_o0) (k := 19) rfl) (rE_ha I10 J36 (I10.up h_o0) (by decide)) (e := 1) h44 (by decide)
      have q45 := J36.keep t17 (by decide) q19
      refine mv_goto (tgt := 28) d_TrustDeskModel_wantWord_20 (by decide) ?_
      exact mv_vret d_TrustDeskModel_wantWord_28 rfl ⟨_, I37, rfl, R39, E43⟩
theorem lV_TrustDeskModel_329 : mj_lV "TrustDeskModel" 329 kY_TrustDeskModel_wantWord 1 := ⟨⟨(mj_in1 (List.mem_of_getElem? (i := 1700) (by decide +kernel)) rfl), (mj_in1 (List.mem_of_getElem? (i := 10) (by decide +kernel)) rfl), (mj_in1 (List.mem_of_getElem? (i := 1703) (by decide +kernel)) rfl), by decide, rfl, by decide⟩, (mj_in1 (List.mem_of_getElem? (i := 1702) (by decide +kernel)) rfl), (mj_in (List.mem_append_left _ (List.mem_of_getElem? (i := 89) (by decide +kernel))) rfl)⟩
theorem d_TrustDeskModel_readEnd_117 : decode kY_TrustDeskModel_readEnd.2.1 117 = .ok (.aload_n 0, 1) := by decide +kernel
theorem d_TrustDeskModel_readEnd_118 : decode kY_TrustDeskModel_readEnd.2.1 118 = .ok (.invokevirtual 288, 3) := by decide +kernel
theorem d_TrustDeskModel_readEnd_121 : decode kY_TrustDeskModel_readEnd.2.1 121 = .ok (.aload_n 0, 1) := by decide +kernel
theorem d_TrustDeskModel_readEnd_122 : decode kY_TrustDeskModel_readEnd.2.1 122 = .ok (.getfield 38, 3) := by decide +kernel
theorem f_TrustDeskModel_38_13 : mj_fl "TrustDeskModel" 38 13 11 := ⟨kR_TrustDeskModel, kF_TrustDeskModel, 72, "TrustDeskModel", rfl, kg_13, by decide, (mj_in1 (List.mem_of_getElem? (i := 1397) (by decide +kernel)) rfl), Or.inl rfl⟩
theorem d_TrustDeskModel_readEnd_125 : decode kY_TrustDeskModel_readEnd.2.1 125 = .ok (.iload_n 1, 1) := by decide +kernel
theorem d_TrustDeskModel_readEnd_126 : decode kY_TrustDeskModel_readEnd.2.1 126 = .ok (.aload_n 0, 1) := by decide +kernel
theorem d_TrustDeskModel_readEnd_127 : decode kY_TrustDeskModel_readEnd.2.1 127 = .ok (.getfield 20, 3) := by decide +kernel
theorem d_TrustDeskModel_readEnd_130 : decode kY_TrustDeskModel_readEnd.2.1 130 = .ok (.bipush 44, 2) := by decide +kernel
theorem d_TrustDeskModel_readEnd_132 : decode kY_TrustDeskModel_readEnd.2.1 132 = .ok (.iaload, 1) := by decide +kernel
theorem d_TrustDeskModel_readEnd_133 : decode kY_TrustDeskModel_readEnd.2.1 133 = .ok (.iastore, 1) := by decide +kernel
theorem d_TrustDeskModel_readEnd_134 : decode kY_TrustDeskModel_readEnd.2.1 134 = .ok (.aload_n 0, 1) := by decide +kernel
theorem d_TrustDeskModel_readEnd_135 : decode kY_TrustDeskModel_readEnd.2.1 135 = .ok (.ldc_w 333, 3) := by decide +kernel
theorem d_TrustDeskModel_readEnd_138 : decode kY_TrustDeskModel_readEnd.2.1 138 = .ok (.invokevirtual 329, 3) := by decide +kernel
def w_TrustDeskModel_isWord_s1_25_x : List Nat := []
theorem tc_TrustDeskModel_isWord_s1_25_x {g : mj_G} {l : Launch} {d : Nat} {T0 : tm_H} {M0 : mj_M} {n0 x9 : Nat} {o0 : Nat} (h_o0 : T0 o0 = some (0, 13, 0)) (yR : rI M0 o0) (I0 : tm_I tm_FT (tm_in w_TrustDeskModel_isWord_s1_25_x) x9 T0 M0 n0 T0 M0 n0) : mj_Met g l kY_TrustDeskModel_isWord (d + 4) [.ref o0, .ref 25] M0 n0 0 0 (tm_Q tm_FT (tm_in w_TrustDeskModel_isWord_s1_25_x) x9 T0 M0 n0 (fun r _ M => ∃ v : Int32, r = some (.int v) ∧ 0 ≤ v.toInt ∧ v.toInt ≤ 1 ∧ rI M o0 ∧ (v.toInt = 1 → rv M0 o0 17 = 3))) := by
  refine mj_enter (by decide) (Nat.le_of_ble_eq_true rfl) ?_
  refine mv_aload_n d_TrustDeskModel_isWord_0 rfl rfl ?_
  obtain ⟨v2, q1⟩ := tm_atI I0 h_o0 (k := 17) rfl
  refine tr_getK q1 d_TrustDeskModel_isWord_1 f_TrustDeskModel_198_13 ?_
  have := tm_rv q1
  refine mv_iconst (v := 3) d_TrustDeskModel_isWord_4 (by decide) ?_
  have := mz_hi v2
  refine mv_icmp_neZ (tgt := 24) (a := v2.toInt) (b := 3) d_TrustDeskModel_isWord_5 (by decide) rfl (by decide) (fun b3 => ?_) (fun b3 => ?_)
  · refine mv_iconst (v := 0) d_TrustDeskModel_isWord_24 (by decide) ?_
    exact mv_iret d_TrustDeskModel_isWord_25 rfl (by decide) ⟨_, I0, _, rfl, by decide, by decide, yR, (fun h => absurd h (by decide))⟩
  · refine mv_aload_n d_TrustDeskModel_isWord_8 rfl rfl ?_
    obtain ⟨v5, q4⟩ := tm_atI I0 h_o0 (k := 15) rfl
    refine tr_getK q4 d_TrustDeskModel_isWord_9 f_TrustDeskModel_192_13 ?_
    have := yR.f (k := 15) q4 rfl
    have := tm_rv q4
    refine mv_aload_n d_TrustDeskModel_isWord_12 rfl rfl ?_
    obtain ⟨v7, q6⟩ := tm_atI I0 h_o0 (k := 16) rfl
    refine tr_getK q6 d_TrustDeskModel_isWord_13 f_TrustDeskModel_195_13 ?_
    have := yR.f (k := 16) q6 rfl
    have := tm_rv q6
    refine mv_isub d_TrustDeskModel_isWord_16 ?_
    refine mv_aload_n d_TrustDeskModel_isWord_17 rfl rfl ?_
    refine mv_slenK (i := 15) (v := 2) d_TrustDeskModel_isWord_18 lV_TrustDeskModel_214 (by decide) rfl (by decide) (Nat.le_of_ble_eq_true rfl) ?_
    have b8 : (v5 - v7 : Int32).toInt = (v5.toInt - v7.toInt) := mz_sub2 rfl rfl (by have := yR.1 15 _ _ rfl; have := yR.1 16 _ _ rfl; have := yR.1 19 _ _ rfl; omega) (by have := yR.1 15 _ _ rfl; have := yR.1 16 _ _ rfl; have := yR.1 19 _ _ rfl; omega)
    have := mz_hi (v5 - v7)
    refine mv_icmp_eqZ (tgt := 26) (a := (v5 - v7).toInt) (b := 2) d_TrustDeskModel_isWord_21 (by decide) rfl (by decide) (fun b9 => ?_) (fun b9 => ?_)
    · refine mv_iconst (v := 0) d_TrustDeskModel_isWord_26 (by decide) ?_
      refine mv_istore_n (lv' := [(2, .int 0), (0, .ref o0), (1, .ref 25)]) d_TrustDeskModel_isWord_27 rfl (by decide) rfl ?_
      have L28_10 : ∀ (k : Nat) (i2_10 : Int32) (T_10 : tm_H) (M_10 : mj_M) (n_10 : Nat), tm_I tm_FT (tm_in w_TrustDeskModel_isWord_s1_25_x) x9 T0 M0 n0 T_10 M_10 n_10 → T_10 o0 = some (0, 13, 0) → 0 ≤ i2_10.toInt → rv M_10 o0 15 = rv M0 o0 15 → rv M_10 o0 16 = rv M0 o0 16 → i2_10.toInt ≤ 2147483646 → (rI M_10 o0) → 2147483647 - i2_10.toInt < (k : Int) → mj_V g l kY_TrustDeskModel_isWord (d + 4) 28 [(2, .int i2_10), (0, .ref o0), (1, .ref 25)] [] M_10 n_10 0 0 (tm_Q tm_FT (tm_in w_TrustDeskModel_isWord_s1_25_x) x9 T0 M0 n0 (fun r _ M => ∃ v : Int32, r = some (.int v) ∧ 0 ≤ v.toInt ∧ v.toInt ≤ 1 ∧ rI M o0 ∧ (v.toInt = 1 → rv M0 o0 17 = 3))) := by
        intro k10
        induction k10 with
        | zero =>
          intro i2_10 T_10 M_10 n_10 I_10 h_q0_10 iv0_10 iv1_10 iv2_10 iv3_10 kKR_10 hk10
          have := mz_hi i2_10
          have := kKR_10.1 15 _ _ rfl
          have := kKR_10.1 16 _ _ rfl
          have := kKR_10.1 19 _ _ rfl
          omega
        | succ k10 ih10 =>
          intro i2_10 T_10 M_10 n_10 I_10 h_q0_10 iv0_10 iv1_10 iv2_10 iv3_10 kKR_10 hk10
          refine mv_iload_n d_TrustDeskModel_isWord_28 rfl rfl ?_
          refine mv_aload_n d_TrustDeskModel_isWord_29 rfl rfl ?_
          refine mv_slenK (i := 15) (v := 2) d_TrustDeskModel_isWord_30 lV_TrustDeskModel_214 (by decide) rfl (by decide) (Nat.le_of_ble_eq_true rfl) ?_
          have := mz_hi i2_10
          refine mv_icmp_geZ (tgt := 63) (a := i2_10.toInt) (b := 2) d_TrustDeskModel_isWord_33 (by decide) rfl (by decide) (fun b11 => ?_) (fun b11 => ?_)
          · refine mv_iconst (v := 1) d_TrustDeskModel_isWord_63 (by decide) ?_
            exact mv_iret d_TrustDeskModel_isWord_64 rfl (by decide) ⟨_, I_10, _, rfl, by decide, by decide, kKR_10, (fun _ => by omega)⟩
          · refine mv_aload_n d_TrustDeskModel_isWord_36 rfl rfl ?_
            obtain ⟨a13, q12, t_a13⟩ := tm_atR I_10 h_q0_10 (k := 13) rfl
            refine tr_getK q12 d_TrustDeskModel_isWord_37 f_TrustDeskModel_44_13 ?_
            refine mv_aload_n d_TrustDeskModel_isWord_40 rfl rfl ?_
            obtain ⟨v15, q14⟩ := tm_atI I_10 h_q0_10 (k := 16) rfl
            refine tr_getK q14 d_TrustDeskModel_isWord_41 f_TrustDeskModel_195_13 ?_
            have := kKR_10.f (k := 16) q14 rfl
            have := tm_rv q14
            refine mv_iload_n d_TrustDeskModel_isWord_44 rfl rfl ?_
            refine mv_iadd d_TrustDeskModel_isWord_45 ?_
            have b16 : (v15 + i2_10 : Int32).toInt = (v15.toInt + i2_10.toInt) := mz_add2 rfl rfl (by have := kKR_10.1 15 _ _ rfl; have := kKR_10.1 16 _ _ rfl; have := kKR_10.1 19 _ _ rfl; omega) (by have := kKR_10.1 15 _ _ rfl; have := kKR_10.1 16 _ _ rfl; have := kKR_10.1 19 _ _ rfl; omega)
            refine tr_baldR (o := o0) (k := 13) I_10 q12 t_a13 (by decide) d_TrustDeskModel_isWord_46 (vp_in_iff.mpr (by have := kKR_10.1 15 _ _ rfl; have := kKR_10.1 16 _ _ rfl; have := kKR_10.1 19 _ _ rfl; omega)) (fun v17 e18 => ?_)
            have := kKR_10.a (k := 13) rfl ((v15 + i2_10) : Int32).toNatClampNeg
            refine mv_aload_n d_TrustDeskModel_isWord_47 rfl rfl ?_
            refine mv_iload_n d_TrustDeskModel_isWord_48 rfl rfl ?_
            refine mv_schN (i := 15) (N := 2) d_TrustDeskModel_isWord_49 lV_TrustDeskModel_220 (by decide) rfl rfl (by omega) (by omega) (Nat.le_of_ble_eq_true rfl) (fun v19 => ?_)
            have := mz_hi v17
            have := mz_hi v19
            refine mv_icmp_eqZ (tgt := 57) (a := v17.toInt) (b := v19.toInt) d_TrustDeskModel_isWord_52 (by decide) rfl rfl (fun b20 => ?_) (fun b20 => ?_)
            · refine mv_iinc (v := (i2_10 + 1)) (lv' := [(2, .int (i2_10 + 1)), (0, .ref o0), (1, .ref 25)]) d_TrustDeskModel_isWord_57 rfl rfl (by decide) rfl ?_
              refine mv_goto (tgt := 28) d_TrustDeskModel_isWord_60 (by decide) ?_
              have b21 : (i2_10 + 1).toInt = i2_10.toInt + 1 := mz_addn 1 1 (by decide) (by have := mz_lo i2_10; omega) (by have := mz_hi i2_10; omega)
              exact (ih10 (i2_10 + 1) T_10 M_10 n_10 I_10 h_q0_10 (by have := kKR_10.1 15 _ _ rfl; have := kKR_10.1 16 _ _ rfl; have := kKR_10.1 19 _ _ rfl; first | omega | decide | exact fun h9 => absurd (by decide) h9) (by have := kKR_10.1 15 _ _ rfl; have := kKR_10.1 16 _ _ rfl; have := kKR_10.1 19 _ _ rfl; first | omega | decide | exact fun h9 => absurd (by decide) h9) (by have := kKR_10.1 15 _ _ rfl; have := kKR_10.1 16 _ _ rfl; have := kKR_10.1 19 _ _ rfl; first | omega | decide | exact fun h9 => absurd (by decide) h9) (by have := kKR_10.1 15 _ _ rfl; have := kKR_10.1 16 _ _ rfl; have := kKR_10.1 19 _ _ rfl; first | omega | decide | exact fun h9 => absurd (by decide) h9) kKR_10 (by have := kKR_10.1 15 _ _ rfl; have := kKR_10.1 16 _ _ rfl; have := kKR_10.1 19 _ _ rfl; omega))
            · refine mv_iconst (v := 0) d_TrustDeskModel_isWord_55 (by decide) ?_
              exact mv_iret d_TrustDeskModel_isWord_56 rfl (by decide) ⟨_, I_10, _, rfl, by decide, by decide, kKR_10, (fun h => absurd h (by decide))⟩
      exact mv_less (Nat.zero_le _) (Nat.zero_le _) (L28_10 4294967296 0 T0 M0 n0 I0 h_o0 (by have := yR.1 15 _ _ rfl; have := yR.1 16 _ _ rfl; have := yR.1 19 _ _ rfl; first | omega | decide | exact fun h9 => absurd (by decide) h9) (by have := yR.1 15 _ _ rfl; have := yR.1 16 _ _ rfl; have := yR.1 19 _ _ rfl; first | omega | decide | exact fun h9 => absurd (by decide) h9) (by have := yR.1 15 _ _ rfl; have := yR.1 16 _ _ rfl; have := yR.1 19 _ _ rfl; first | omega | decide | exact fun h9 => absurd (by decide) h9) (by have := yR.1 15 _ _ rfl; have := yR.1 16 _ _ rfl; have := yR.1 19 _ _ rfl; first | omega | decide | exact fun h9 => absurd (by decide) h9) yR (by show (2147483647 - (0 : Int) : Int) < _; decide))
    · refine mv_iconst (v := 0) d_TrustDeskModel_isWord_24 (by decide) ?_
      exact mv_iret d_TrustDeskModel_isWord_25 rfl (by decide) ⟨_, I0, _, rfl, by decide, by decide, yR, (fun h => absurd h (by decide))⟩
def w_TrustDeskModel_wantWord_s1_25_x : List Nat := [1315, 1316, 1317, 1318, 1319, 1320]
theorem tc_TrustDeskModel_wantWord_s1_25_x {g : mj_G} {l : Launch} {d : Nat} {T0 : tm_H} {M0 : mj_M} {n0 x9 : Nat} {o0 : Nat} (h_o0 : T0 o0 = some (0, 13, 0)) (yR : rI M0 o0) (yT : rT M0 o0) (yS : rv M0 o0 19 = 0 → ra M0 o0 5 44 ≤ rv M0 o0 16) (I0 : tm_I tm_FT (tm_in w_TrustDeskModel_wantWord_s1_25_x) x9 T0 M0 n0 T0 M0 n0) : mj_Met g l kY_TrustDeskModel_wantWord (d + 5) [.ref o0, .ref 25] M0 n0 0 0 (tm_Q tm_FT (tm_in w_TrustDeskModel_wantWord_s1_25_x) x9 T0 M0 n0 (fun r _ M => r = none ∧ rI M o0 ∧ (rE M0 M o0 0 1))) := by
  refine mj_enter (by decide) (Nat.le_of_ble_eq_true rfl) ?_
  have yE0 := rE.rf yT
  refine mv_aload_n d_TrustDeskModel_wantWord_0 rfl rfl ?_
  obtain ⟨_, b1, -⟩ := I0.1 _ _ h_o0
  refine mv_callV (kc1 := 0) (ks1 := 0) (kc' := 0) (ks' := 0) (As := []) (st9 := [.ref o0]) d_TrustDeskModel_wantWord_1 lV_TrustDeskModel_230 b1 rfl (mj_enter (by decide) (Nat.le_of_ble_eq_true rfl) ?_) rfl (Nat.le_of_ble_eq_true rfl) (Nat.le_of_ble_eq_true rfl) (Nat.le_of_ble_eq_true rfl) (hst := rfl) (fun _ _ _ h => h)
  refine mv_aload_n d_TrustDeskModel_isWell_0 rfl rfl ?_
  obtain ⟨v3, q2⟩ := tm_atI I0 h_o0 (k := 19) rfl
  refine tr_getK q2 d_TrustDeskModel_isWell_1 f_TrustDeskModel_224_13 ?_
  have := yR.f (k := 19) q2 rfl
  have := tm_rv q2
  have := mz_hi v3
  refine mv_if_neZ (tgt := 11) (a := v3.toInt) d_TrustDeskModel_isWell_4 (by decide) rfl (fun b4 => ?_) (fun b4 => ?_)
  · refine mv_iconst (v := 0) d_TrustDeskModel_isWell_11 (by decide) ?_
    refine mv_iret d_TrustDeskModel_isWell_12 rfl (by decide) ?_
    refine mv_if_ne_f (tgt := 8) d_TrustDeskModel_wantWord_4 (by decide) (by decide) ?_
    exact mv_vret d_TrustDeskModel_wantWord_7 rfl ⟨_, I0, rfl, yR, yE0.vac (by have := yR.1 15 _ _ rfl; have := yR.1 16 _ _ rfl; have := yR.1 19 _ _ rfl; have := yE0.f yS; omega) 0 1⟩
  · refine mv_iconst (v := 1) d_TrustDeskModel_isWell_7 (by decide) ?_
    refine mv_goto (tgt := 12) d_TrustDeskModel_isWell_8 (by decide) ?_
    refine mv_iret d_TrustDeskModel_isWell_12 rfl (by decide) ?_
    refine mv_if_ne_t (tgt := 8) d_TrustDeskModel_wantWord_4 (by decide) (by decide) ?_
    refine mv_aload_n d_TrustDeskModel_wantWord_8 rfl rfl ?_
    refine mv_aload_n d_TrustDeskModel_wantWord_9 rfl rfl ?_
    obtain ⟨_, b11, -⟩ := I0.1 _ _ h_o0
    refine mv_callV (kc' := 0) (ks' := 0) (As := [.ref 25]) (st9 := [.ref 25, .ref o0]) d_TrustDeskModel_wantWord_10 lV_TrustDeskModel_244 b11 rfl (tc_TrustDeskModel_isWord_s1_25_x (d := d) (x9 := x9) (o0 := o0) h_o0 yR I0.start) rfl (Nat.le_of_ble_eq_true rfl) (Nat.le_of_ble_eq_true rfl) (Nat.le_of_ble_eq_true rfl) (hst := rfl) (fun b5r M6 n7 b5 => ?_)
    obtain ⟨T8, J9, v12, rfl, b13, b14, R15, f16⟩ := b5
    have I10 := I0.call J9 (tm_sub (by decide)) (Or.inl rfl)
    have t17 := J9.up h_o0
    have := (rv_c I0 J9 (I0.up h_o0) (k := 16) rfl)
    have := (rv_c I0 J9 (I0.up h_o0) (k := 17) rfl)
    have := (rv_c I0 J9 (I0.up h_o0) (k := 19) rfl)
    have := (rv_c I0 J9 (I0.up h_o0) (k := 22) rfl)
    have E18 : rE M0 M6 o0 0 0 := yE0.same (rE_hv I0 J9 (I0.up h_o0) 15 19 (by decide)) (rE_ha I0 J9 (I0.up h_o0) (by decide))
    have q19 := J9.keep h_o0 (by decide) q2
    have := mz_hi v12
    refine mv_if_eqZ (tgt := 23) (a := v12.toInt) d_TrustDeskModel_wantWord_13 (by decide) rfl (fun b20 => ?_) (fun b20 => ?_)
    · refine mv_aload_n d_TrustDeskModel_wantWord_23 rfl rfl ?_
      refine mv_iconst (v := 1) d_TrustDeskModel_wantWord_24 (by decide) ?_
      obtain ⟨_, b27, -⟩ := I10.1 _ _ t17
      have : (1 : Int32).toInt = 1 := by decide
      refine mv_callV (kc' := 0) (ks' := 0) (As := [.int 1]) (st9 := [.int 1, .ref o0]) d_TrustDeskModel_wantWord_25 lV_TrustDeskModel_240 b27 rfl (tc_TrustDeskModel_fails_x (d := (d + 4)) (x9 := x9) (o0 := o0) (x1 := 1) t17 R15 (by decide) I10.start) rfl (Nat.le_of_ble_eq_true rfl) (Nat.le_of_ble_eq_true rfl) (Nat.le_of_ble_eq_true rfl) (hst := rfl) (fun b21r M22 n23 b21 => ?_)
      obtain ⟨T24, J25, rfl, R28, f29⟩ := b21
      have I26 := I10.call J25 (tm_sub (by decide)) (Or.inl rfl)
      have t30 := J25.up t17
      have := (rv_c I10 J25 (I10.up h_o0) (k := 16) rfl)
      have := (rv_c I10 J25 (I10.up h_o0) (k := 17) rfl)
      have := (rv_c I10 J25 (I10.up h_o0) (k := 22) rfl)
      have E31 : rE M0 M22 o0 0 0 := E18.fails (rE_hv I10 J25 (I10.up h_o0) 15 18 (by decide)) (rE_ha I10 J25 (I10.up h_o0) (by decide)) f29 0 0
      exact mv_vret d_TrustDeskModel_wantWord_28 rfl ⟨_, I26, rfl, R28, E31.vac (by have := R28.1 15 _ _ rfl; have := R28.1 16 _ _ rfl; have := R28.1 19 _ _ rfl; have := E31.f yS; omega) 0 1⟩
    · refine mv_aload_n d_TrustDeskModel_wantWord_16 rfl rfl ?_
      obtain ⟨_, b38, -⟩ := I10.1 _ _ t17
      refine mv_callV (kc' := 0) (ks' := 0) (As := []) (st9 := [.ref o0]) d_TrustDeskModel_wantWord_17 lV_TrustDeskModel_237 b38 rfl (tc_TrustDeskModel_next_x (d := (d + 3)) (x9 := x9) (o0 := o0) t17 R15 I10.start) rfl (Nat.le_of_ble_eq_true rfl) (Nat.le_of_ble_eq_true rfl) (Nat.le_of_ble_eq_true rfl) (hst := rfl) (fun b32r M33 n34 b32 => ?_)
      obtain ⟨T35, J36, rfl, R39, f40, f41⟩ := b32
      have I37 := I10.call J36 (tm_sub (by decide)) (Or.inl rfl)
      have t42 := J36.up t17
      have := (rv_c I10 J36 (I10.up h_o0) (k := 19) rfl)
      have := (rv_c I10 J36 (I10.up h_o0) (k := 22) rfl)
      have h44 : rv M6 o0 16 + 1 ≤ rv M6 o0 15 := (by have := R15.1 15 _ _ rfl; have := R15.1 16 _ _ rfl; have := R15.1 19 _ _ rfl; have := E18.f yS; omega)
      have E43 : rE M0 M33 o0 0 1 := E18.next f40 f41 (rv_c I10 J36 (I10.up h_o0) (k := 19) rfl) (rE_ha I10 J36 (I10.up h_o0) (by decide)) (e := 1) h44 (by decide)
      have q45 := J36.keep t17 (by decide) q19
      refine mv_goto (tgt := 28) d_TrustDeskModel_wantWord_20 (by decide) ?_
      exact mv_vret d_TrustDeskModel_wantWord_28 rfl ⟨_, I37, rfl, R39, E43⟩
theorem d_TrustDeskModel_readEnd_141 : decode kY_TrustDeskModel_readEnd.2.1 141 = .ok (.aload_n 0, 1) := by decide +kernel
theorem d_TrustDeskModel_readEnd_142 : decode kY_TrustDeskModel_readEnd.2.1 142 = .ok (.invokevirtual 302, 3) := by decide +kernel
theorem d_TrustDeskModel_readEnd_145 : decode kY_TrustDeskModel_readEnd.2.1 145 = .ok (.aload_n 0, 1) := by decide +kernel
theorem d_TrustDeskModel_readEnd_146 : decode kY_TrustDeskModel_readEnd.2.1 146 = .ok (.getfield 32, 3) := by decide +kernel
theorem d_TrustDeskModel_readEnd_149 : decode kY_TrustDeskModel_readEnd.2.1 149 = .ok (.iload_n 1, 1) := by decide +kernel
theorem d_TrustDeskModel_readEnd_150 : decode kY_TrustDeskModel_readEnd.2.1 150 = .ok (.iconst 0, 1) := by decide +kernel
theorem d_TrustDeskModel_readEnd_151 : decode kY_TrustDeskModel_readEnd.2.1 151 = .ok (.iastore, 1) := by decide +kernel
theorem d_TrustDeskModel_readEnd_152 : decode kY_TrustDeskModel_readEnd.2.1 152 = .ok (.aload_n 0, 1) := by decide +kernel
theorem d_TrustDeskModel_readEnd_153 : decode kY_TrustDeskModel_readEnd.2.1 153 = .ok (.invokevirtual 230, 3) := by decide +kernel
theorem d_TrustDeskModel_readEnd_156 : decode kY_TrustDeskModel_readEnd.2.1 156 = .ok (.ifCond .eq 24, 3) := by decide +kernel
theorem d_TrustDeskModel_readEnd_180 : decode kY_TrustDeskModel_readEnd.2.1 180 = .ok (.return_, 1) := by decide +kernel
theorem d_TrustDeskModel_readEnd_159 : decode kY_TrustDeskModel_readEnd.2.1 159 = .ok (.aload_n 0, 1) := by decide +kernel
theorem d_TrustDeskModel_readEnd_160 : decode kY_TrustDeskModel_readEnd.2.1 160 = .ok (.ldc_w 335, 3) := by decide +kernel
theorem d_TrustDeskModel_readEnd_163 : decode kY_TrustDeskModel_readEnd.2.1 163 = .ok (.invokevirtual 244, 3) := by decide +kernel
def w_TrustDeskModel_isWord_s1_46_x : List Nat := []
theorem tc_TrustDeskModel_isWord_s1_46_x {g : mj_G} {l : Launch} {d : Nat} {T0 : tm_H} {M0 : mj_M} {n0 x9 : Nat} {o0 : Nat} (h_o0 : T0 o0 = some (0, 13, 0)) (yR : rI M0 o0) (I0 : tm_I tm_FT (tm_in w_TrustDeskModel_isWord_s1_46_x) x9 T0 M0 n0 T0 M0 n0) : mj_Met g l kY_TrustDeskModel_isWord (d + 4) [.ref o0, .ref 46] M0 n0 0 0 (tm_Q tm_FT (tm_in w_TrustDeskModel_isWord_s1_46_x) x9 T0 M0 n0 (fun r _ M => ∃ v : Int32, r = some (.int v) ∧ 0 ≤ v.toInt ∧ v.toInt ≤ 1 ∧ rI M o0 ∧ (v.toInt = 1 → rv M0 o0 17 = 3))) := by
  refine mj_enter (by decide) (Nat.le_of_ble_eq_true rfl) ?_
  refine mv_aload_n d_TrustDeskModel_isWord_0 rfl rfl ?_
  obtain ⟨v2, q1⟩ := tm_atI I0 h_o0 (k := 17) rfl
  refine tr_getK q1 d_TrustDeskModel_isWord_1 f_TrustDeskModel_198_13 ?_
  have := tm_rv q1
  refine mv_iconst (v := 3) d_TrustDeskModel_isWord_4 (by decide) ?_
  have := mz_hi v2
  refine mv_icmp_neZ (tgt := 24) (a := v2.toInt) (b := 3) d_TrustDeskModel_isWord_5 (by decide) rfl (by decide) (fun b3 => ?_) (fun b3 => ?_)
  · refine mv_iconst (v := 0) d_TrustDeskModel_isWord_24 (by decide) ?_
    exact mv_iret d_TrustDeskModel_isWord_25 rfl (by decide) ⟨_, I0, _, rfl, by decide, by decide, yR, (fun h => absurd h (by decide))⟩
  · refine mv_aload_n d_TrustDeskModel_isWord_8 rfl rfl ?_
    obtain ⟨v5, q4⟩ := tm_atI I0 h_o0 (k := 15) rfl
    refine tr_getK q4 d_TrustDeskModel_isWord_9 f_TrustDeskModel_192_13 ?_
    have := yR.f (k := 15) q4 rfl
    have := tm_rv q4
    refine mv_aload_n d_TrustDeskModel_isWord_12 rfl rfl ?_
    obtain ⟨v7, q6⟩ := tm_atI I0 h_o0 (k := 16) rfl
    refine tr_getK q6 d_TrustDeskModel_isWord_13 f_TrustDeskModel_195_13 ?_
    have := yR.f (k := 16) q6 rfl
    have := tm_rv q6
    refine mv_isub d_TrustDeskModel_isWord_16 ?_
    refine mv_aload_n d_TrustDeskModel_isWord_17 rfl rfl ?_
    refine mv_slenK (i := 36) (v := 4) d_TrustDeskModel_isWord_18 lV_TrustDeskModel_214 (by decide) rfl (by decide) (Nat.le_of_ble_eq_true rfl) ?_
    have b8 : (v5 - v7 : Int32).toInt = (v5.toInt - v7.toInt) := mz_sub2 rfl rfl (by have := yR.1 15 _ _ rfl; have := yR.1 16 _ _ rfl; have := yR.1 19 _ _ rfl; omega) (by have := yR.1 15 _ _ rfl; have := yR.1 16 _ _ rfl; have := yR.1 19 _ _ rfl; omega)
    have := mz_hi (v5 - v7)
    refine mv_icmp_eqZ (tgt := 26) (a := (v5 - v7).toInt) (b := 4) d_TrustDeskModel_isWord_21 (by decide) rfl (by decide) (fun b9 => ?_) (fun b9 => ?_)
    · refine mv_iconst (v := 0) d_TrustDeskModel_isWord_26 (by decide) ?_
      refine mv_istore_n (lv' := [(2, .int 0), (0, .ref o0), (1, .ref 46)]) d_TrustDeskModel_isWord_27 rfl (by decide) rfl ?_
      have L28_10 : ∀ (k : Nat) (i2_10 : Int32) (T_10 : tm_H) (M_10 : mj_M) (n_10 : Nat), tm_I tm_FT (tm_in w_TrustDeskModel_isWord_s1_46_x) x9 T0 M0 n0 T_10 M_10 n_10 → T_10 o0 = some (0, 13, 0) → 0 ≤ i2_10.toInt → rv M_10 o0 15 = rv M0 o0 15 → rv M_10 o0 16 = rv M0 o0 16 → i2_10.toInt ≤ 2147483646 → (rI M_10 o0) → 2147483647 - i2_10.toInt < (k : Int) → mj_V g l kY_TrustDeskModel_isWord (d + 4) 28 [(2, .int i2_10), (0, .ref o0), (1, .ref 46)] [] M_10 n_10 0 0 (tm_Q tm_FT (tm_in w_TrustDeskModel_isWord_s1_46_x) x9 T0 M0 n0 (fun r _ M => ∃ v : Int32, r = some (.int v) ∧ 0 ≤ v.toInt ∧ v.toInt ≤ 1 ∧ rI M o0 ∧ (v.toInt = 1 → rv M0 o0 17 = 3))) := by
        intro k10
        induction k10 with
        | zero =>
          intro i2_10 T_10 M_10 n_10 I_10 h_q0_10 iv0_10 iv1_10 iv2_10 iv3_10 kKR_10 hk10
          have := mz_hi i2_10
          have := kKR_10.1 15 _ _ rfl
          have := kKR_10.1 16 _ _ rfl
          have := kKR_10.1 19 _ _ rfl
          omega
        | succ k10 ih10 =>
          intro i2_10 T_10 M_10 n_10 I_10 h_q0_10 iv0_10 iv1_10 iv2_10 iv3_10 kKR_10 hk10
          refine mv_iload_n d_TrustDeskModel_isWord_28 rfl rfl ?_
          refine mv_aload_n d_TrustDeskModel_isWord_29 rfl rfl ?_
          refine mv_slenK (i := 36) (v := 4) d_TrustDeskModel_isWord_30 lV_TrustDeskModel_214 (by decide) rfl (by decide) (Nat.le_of_ble_eq_true rfl) ?_
          have := mz_hi i2_10
          refine mv_icmp_geZ (tgt := 63) (a := i2_10.toInt) (b := 4) d_TrustDeskModel_isWord_33 (by decide) rfl (by decide) (fun b11 => ?_) (fun b11 => ?_)
          · refine mv_iconst (v := 1) d_TrustDeskModel_isWord_63 (by decide) ?_
            exact mv_iret d_TrustDeskModel_isWord_64 rfl (by decide) ⟨_, I_10, _, rfl, by decide, by decide, kKR_10, (fun _ => by omega)⟩
          · refine mv_aload_n d_TrustDeskModel_isWord_36 rfl rfl ?_
            obtain ⟨a13, q12, t_a13⟩ := tm_atR I_10 h_q0_10 (k := 13) rfl
            refine tr_getK q12 d_TrustDeskModel_isWord_37 f_TrustDeskModel_44_13 ?_
            refine mv_aload_n d_TrustDeskModel_isWord_40 rfl rfl ?_
            obtain ⟨v15, q14⟩ := tm_atI I_10 h_q0_10 (k := 16) rfl
            refine tr_getK q14 d_TrustDeskModel_isWord_41 f_TrustDeskModel_195_13 ?_
            have := kKR_10.f (k := 16) q14 rfl
            have := tm_rv q14
            refine mv_iload_n d_TrustDeskModel_isWord_44 rfl rfl ?_
            refine mv_iadd d_TrustDeskModel_isWord_45 ?_
            have b16 : (v15 + i2_10 : Int32).toInt = (v15.toInt + i2_10.toInt) := mz_add2 rfl rfl (by have := kKR_10.1 15 _ _ rfl; have := kKR_10.1 16 _ _ rfl; have := kKR_10.1 19 _ _ rfl; omega) (by have := kKR_10.1 15 _ _ rfl; have := kKR_10.1 16 _ _ rfl; have := kKR_10.1 19 _ _ rfl; omega)
            refine tr_baldR (o := o0) (k := 13) I_10 q12 t_a13 (by decide) d_TrustDeskModel_isWord_46 (vp_in_iff.mpr (by have := kKR_10.1 15 _ _ rfl; have := kKR_10.1 16 _ _ rfl; have := kKR_10.1 19 _ _ rfl; omega)) (fun v17 e18 => ?_)
            have := kKR_10.a (k := 13) rfl ((v15 + i2_10) : Int32).toNatClampNeg
            refine mv_aload_n d_TrustDeskModel_isWord_47 rfl rfl ?_
            refine mv_iload_n d_TrustDeskModel_isWord_48 rfl rfl ?_
            refine mv_schN (i := 36) (N := 4) d_TrustDeskModel_isWord_49 lV_TrustDeskModel_220 (by decide) rfl rfl (by omega) (by omega) (Nat.le_of_ble_eq_true rfl) (fun v19 => ?_)
            have := mz_hi v17
            have := mz_hi v19
            refine mv_icmp_eqZ (tgt := 57) (a := v17.toInt) (b := v19.toInt) d_TrustDeskModel_isWord_52 (by decide) rfl rfl (fun b20 => ?_) (fun b20 => ?_)
            · refine mv_iinc (v := (i2_10 + 1)) (lv' := [(2, .int (i2_10 + 1)), (0, .ref o0), (1, .ref 46)]) d_TrustDeskModel_isWord_57 rfl rfl (by decide) rfl ?_
              refine mv_goto (tgt := 28) d_TrustDeskModel_isWord_60 (by decide) ?_
              have b21 : (i2_10 + 1).toInt = i2_10.toInt + 1 := mz_addn 1 1 (by decide) (by have := mz_lo i2_10; omega) (by have := mz_hi i2_10; omega)
              exact (ih10 (i2_10 + 1) T_10 M_10 n_10 I_10 h_q0_10 (by have := kKR_10.1 15 _ _ rfl; have := kKR_10.1 16 _ _ rfl; have := kKR_10.1 19 _ _ rfl; first | omega | decide | exact fun h9 => absurd (by decide) h9) (by have := kKR_10.1 15 _ _ rfl; have := kKR_10.1 16 _ _ rfl; have := kKR_10.1 19 _ _ rfl; first | omega | decide | exact fun h9 => absurd (by decide) h9) (by have := kKR_10.1 15 _ _ rfl; have := kKR_10.1 16 _ _ rfl; have := kKR_10.1 19 _ _ rfl; first | omega | decide | exact fun h9 => absurd (by decide) h9) (by have := kKR_10.1 15 _ _ rfl; have := kKR_10.1 16 _ _ rfl; have := kKR_10.1 19 _ _ rfl; first | omega | decide | exact fun h9 => absurd (by decide) h9) kKR_10 (by have := kKR_10.1 15 _ _ rfl; have := kKR_10.1 16 _ _ rfl; have := kKR_10.1 19 _ _ rfl; omega))
            · refine mv_iconst (v := 0) d_TrustDeskModel_isWord_55 (by decide) ?_
              exact mv_iret d_TrustDeskModel_isWord_56 rfl (by decide) ⟨_, I_10, _, rfl, by decide, by decide, kKR_10, (fun h => absurd h (by decide))⟩
      exact mv_less (Nat.zero_le _) (Nat.zero_le _) (L28_10 4294967296 0 T0 M0 n0 I0 h_o0 (by have := yR.1 15 _ _ rfl; have := yR.1 16 _ _ rfl; have := yR.1 19 _ _ rfl; first | omega | decide | exact fun h9 => absurd (by decide) h9) (by have := yR.1 15 _ _ rfl; have := yR.1 16 _ _ rfl; have := yR.1 19 _ _ rfl; first | omega | decide | exact fun h9 => absurd (by decide) h9) (by have := yR.1 15 _ _ rfl; have := yR.1 16 _ _ rfl; have := yR.1 19 _ _ rfl; first | omega | decide | exact fun h9 => absurd (by decide) h9) (by have := yR.1 15 _ _ rfl; have := yR.1 16 _ _ rfl; have := yR.1 19 _ _ rfl; first | omega | decide | exact fun h9 => absurd (by decide) h9) yR (by show (2147483647 - (0 : Int) : Int) < _; decide))
    · refine mv_iconst (v := 0) d_TrustDeskModel_isWord_24 (by decide) ?_
      exact mv_iret d_TrustDeskModel_isWord_25 rfl (by decide) ⟨_, I0, _, rfl, by decide, by decide, yR, (fun h => absurd h (by decide))⟩
theorem d_TrustDeskModel_readEnd_166 : decode kY_TrustDeskModel_readEnd.2.1 166 = .ok (.ifCond .eq 14, 3) := by decide +kernel
theorem d_TrustDeskModel_readEnd_169 : decode kY_TrustDeskModel_readEnd.2.1 169 = .ok (.aload_n 0, 1) := by decide +kernel
theorem d_TrustDeskModel_readEnd_170 : decode kY_TrustDeskModel_readEnd.2.1 170 = .ok (.getfield 32, 3) := by decide +kernel
theorem d_TrustDeskModel_readEnd_173 : decode kY_TrustDeskModel_readEnd.2.1 173 = .ok (.iload_n 1, 1) := by decide +kernel
theorem d_TrustDeskModel_readEnd_174 : decode kY_TrustDeskModel_readEnd.2.1 174 = .ok (.iconst 1, 1) := by decide +kernel
theorem d_TrustDeskModel_readEnd_175 : decode kY_TrustDeskModel_readEnd.2.1 175 = .ok (.iastore, 1) := by decide +kernel
theorem d_TrustDeskModel_readEnd_176 : decode kY_TrustDeskModel_readEnd.2.1 176 = .ok (.aload_n 0, 1) := by decide +kernel
theorem d_TrustDeskModel_readEnd_177 : decode kY_TrustDeskModel_readEnd.2.1 177 = .ok (.invokevirtual 237, 3) := by decide +kernel
theorem d_TrustDeskModel_readEnd_37 : decode kY_TrustDeskModel_readEnd.2.1 37 = .ok (.aload_n 0, 1) := by decide +kernel
theorem d_TrustDeskModel_readEnd_38 : decode kY_TrustDeskModel_readEnd.2.1 38 = .ok (.iconst 3, 1) := by decide +kernel
theorem d_TrustDeskModel_readEnd_39 : decode kY_TrustDeskModel_readEnd.2.1 39 = .ok (.invokevirtual 240, 3) := by decide +kernel
theorem d_TrustDeskModel_readClause_12 : decode kY_TrustDeskModel_readClause.2.1 12 = .ok (.aload_n 0, 1) := by decide +kernel
theorem d_TrustDeskModel_readClause_13 : decode kY_TrustDeskModel_readClause.2.1 13 = .ok (.ldc_w 338, 3) := by decide +kernel
theorem d_TrustDeskModel_readClause_16 : decode kY_TrustDeskModel_readClause.2.1 16 = .ok (.invokevirtual 244, 3) := by decide +kernel
theorem d_TrustDeskModel_readClause_19 : decode kY_TrustDeskModel_readClause.2.1 19 = .ok (.ifCond .ne 21, 3) := by decide +kernel
theorem d_TrustDeskModel_readClause_22 : decode kY_TrustDeskModel_readClause.2.1 22 = .ok (.aload_n 0, 1) := by decide +kernel
theorem d_TrustDeskModel_readClause_23 : decode kY_TrustDeskModel_readClause.2.1 23 = .ok (.ldc_w 340, 3) := by decide +kernel
theorem d_TrustDeskModel_readClause_26 : decode kY_TrustDeskModel_readClause.2.1 26 = .ok (.invokevirtual 244, 3) := by decide +kernel
def w_TrustDeskModel_isWord_s1_44_x : List Nat := []
theorem tc_TrustDeskModel_isWord_s1_44_x {g : mj_G} {l : Launch} {d : Nat} {T0 : tm_H} {M0 : mj_M} {n0 x9 : Nat} {o0 : Nat} (h_o0 : T0 o0 = some (0, 13, 0)) (yR : rI M0 o0) (I0 : tm_I tm_FT (tm_in w_TrustDeskModel_isWord_s1_44_x) x9 T0 M0 n0 T0 M0 n0) : mj_Met g l kY_TrustDeskModel_isWord (d + 4) [.ref o0, .ref 44] M0 n0 0 0 (tm_Q tm_FT (tm_in w_TrustDeskModel_isWord_s1_44_x) x9 T0 M0 n0 (fun r _ M => ∃ v : Int32, r = some (.int v) ∧ 0 ≤ v.toInt ∧ v.toInt ≤ 1 ∧ rI M o0 ∧ (v.toInt = 1 → rv M0 o0 17 = 3))) := by
  refine mj_enter (by decide) (Nat.le_of_ble_eq_true rfl) ?_
  refine mv_aload_n d_TrustDeskModel_isWord_0 rfl rfl ?_
  obtain ⟨v2, q1⟩ := tm_atI I0 h_o0 (k := 17) rfl
  refine tr_getK q1 d_TrustDeskModel_isWord_1 f_TrustDeskModel_198_13 ?_
  have := tm_rv q1
  refine mv_iconst (v := 3) d_TrustDeskModel_isWord_4 (by decide) ?_
  have := mz_hi v2
  refine mv_icmp_neZ (tgt := 24) (a := v2.toInt) (b := 3) d_TrustDeskModel_isWord_5 (by decide) rfl (by decide) (fun b3 => ?_) (fun b3 => ?_)
  · refine mv_iconst (v := 0) d_TrustDeskModel_isWord_24 (by decide) ?_
    exact mv_iret d_TrustDeskModel_isWord_25 rfl (by decide) ⟨_, I0, _, rfl, by decide, by decide, yR, (fun h => absurd h (by decide))⟩
  · refine mv_aload_n d_TrustDeskModel_isWord_8 rfl rfl ?_
    obtain ⟨v5, q4⟩ := tm_atI I0 h_o0 (k := 15) rfl
    refine tr_getK q4 d_TrustDeskModel_isWord_9 f_TrustDeskModel_192_13 ?_
    have := yR.f (k := 15) q4 rfl
    have := tm_rv q4
    refine mv_aload_n d_TrustDeskModel_isWord_12 rfl rfl ?_
    obtain ⟨v7, q6⟩ := tm_atI I0 h_o0 (k := 16) rfl
    refine tr_getK q6 d_TrustDeskModel_isWord_13 f_TrustDeskModel_195_13 ?_
    have := yR.f (k := 16) q6 rfl
    have := tm_rv q6
    refine mv_isub d_TrustDeskModel_isWord_16 ?_
    refine mv_aload_n d_TrustDeskModel_isWord_17 rfl rfl ?_
    refine mv_slenK (i := 34) (v := 5) d_TrustDeskModel_isWord_18 lV_TrustDeskModel_214 (by decide) rfl (by decide) (Nat.le_of_ble_eq_true rfl) ?_
    have b8 : (v5 - v7 : Int32).toInt = (v5.toInt - v7.toInt) := mz_sub2 rfl rfl (by have := yR.1 15 _ _ rfl; have := yR.1 16 _ _ rfl; have := yR.1 19 _ _ rfl; omega) (by have := yR.1 15 _ _ rfl; have := yR.1 16 _ _ rfl; have := yR.1 19 _ _ rfl; omega)
    have := mz_hi (v5 - v7)
    refine mv_icmp_eqZ (tgt := 26) (a := (v5 - v7).toInt) (b := 5) d_TrustDeskModel_isWord_21 (by decide) rfl (by decide) (fun b9 => ?_) (fun b9 => ?_)
    · refine mv_iconst (v := 0) d_TrustDeskModel_isWord_26 (by decide) ?_
      refine mv_istore_n (lv' := [(2, .int 0), (0, .ref o0), (1, .ref 44)]) d_TrustDeskModel_isWord_27 rfl (by decide) rfl ?_
      have L28_10 : ∀ (k : Nat) (i2_10 : Int32) (T_10 : tm_H) (M_10 : mj_M) (n_10 : Nat), tm_I tm_FT (tm_in w_TrustDeskModel_isWord_s1_44_x) x9 T0 M0 n0 T_10 M_10 n_10 → T_10 o0 = some (0, 13, 0) → 0 ≤ i2_10.toInt → rv M_10 o0 15 = rv M0 o0 15 → rv M_10 o0 16 = rv M0 o0 16 → i2_10.toInt ≤ 2147483646 → (rI M_10 o0) → 2147483647 - i2_10.toInt < (k : Int) → mj_V g l kY_TrustDeskModel_isWord (d + 4) 28 [(2, .int i2_10), (0, .ref o0), (1, .ref 44)] [] M_10 n_10 0 0 (tm_Q tm_FT (tm_in w_TrustDeskModel_isWord_s1_44_x) x9 T0 M0 n0 (fun r _ M => ∃ v : Int32, r = some (.int v) ∧ 0 ≤ v.toInt ∧ v.toInt ≤ 1 ∧ rI M o0 ∧ (v.toInt = 1 → rv M0 o0 17 = 3))) := by
        intro k10
        induction k10 with
        | zero =>
          intro i2_10 T_10 M_10 n_10 I_10 h_q0_10 iv0_10 iv1_10 iv2_10 iv3_10 kKR_10 hk10
          have := mz_hi i2_10
          have := kKR_10.1 15 _ _ rfl
          have := kKR_10.1 16 _ _ rfl
          have := kKR_10.1 19 _ _ rfl
          omega
        | succ k10 ih10 =>
          intro i2_10 T_10 M_10 n_10 I_10 h_q0_10 iv0_10 iv1_10 iv2_10 iv3_10 kKR_10 hk10
          refine mv_iload_n d_TrustDeskModel_isWord_28 rfl rfl ?_
          refine mv_aload_n d_TrustDeskModel_isWord_29 rfl rfl ?_
          refine mv_slenK (i := 34) (v := 5) d_TrustDeskModel_isWord_30 lV_TrustDeskModel_214 (by decide) rfl (by decide) (Nat.le_of_ble_eq_true rfl) ?_
          have := mz_hi i2_10
          refine mv_icmp_geZ (tgt := 63) (a := i2_10.toInt) (b := 5) d_TrustDeskModel_isWord_33 (by decide) rfl (by decide) (fun b11 => ?_) (fun b11 => ?_)
          · refine mv_iconst (v := 1) d_TrustDeskModel_isWord_63 (by decide) ?_
            exact mv_iret d_TrustDeskModel_isWord_64 rfl (by decide) ⟨_, I_10, _, rfl, by decide, by decide, kKR_10, (fun _ => by omega)⟩
          · refine mv_aload_n d_TrustDeskModel_isWord_36 rfl rfl ?_
            obtain ⟨a13, q12, t_a13⟩ := tm_atR I_10 h_q0_10 (k := 13) rfl
            refine tr_getK q12 d_TrustDeskModel_isWord_37 f_TrustDeskModel_44_13 ?_
            refine mv_aload_n d_TrustDeskModel_isWord_40 rfl rfl ?_
            obtain ⟨v15, q14⟩ := tm_atI I_10 h_q0_10 (k := 16) rfl
            refine tr_getK q14 d_TrustDeskModel_isWord_41 f_TrustDeskModel_195_13 ?_
            have := kKR_10.f (k := 16) q14 rfl
            have := tm_rv q14
            refine mv_iload_n d_TrustDeskModel_isWord_44 rfl rfl ?_
            refine mv_iadd d_TrustDeskModel_isWord_45 ?_
            have b16 : (v15 + i2_10 : Int32).toInt = (v15.toInt + i2_10.toInt) := mz_add2 rfl rfl (by have := kKR_10.1 15 _ _ rfl; have := kKR_10.1 16 _ _ rfl; have := kKR_10.1 19 _ _ rfl; omega) (by have := kKR_10.1 15 _ _ rfl; have := kKR_10.1 16 _ _ rfl; have := kKR_10.1 19 _ _ rfl; omega)
            refine tr_baldR (o := o0) (k := 13) I_10 q12 t_a13 (by decide) d_TrustDeskModel_isWord_46 (vp_in_iff.mpr (by have := kKR_10.1 15 _ _ rfl; have := kKR_10.1 16 _ _ rfl; have := kKR_10.1 19 _ _ rfl; omega)) (fun v17 e18 => ?_)
            have := kKR_10.a (k := 13) rfl ((v15 + i2_10) : Int32).toNatClampNeg
            refine mv_aload_n d_TrustDeskModel_isWord_47 rfl rfl ?_
            refine mv_iload_n d_TrustDeskModel_isWord_48 rfl rfl ?_
            refine mv_schN (i := 34) (N := 5) d_TrustDeskModel_isWord_49 lV_TrustDeskModel_220 (by decide) rfl rfl (by omega) (by omega) (Nat.le_of_ble_eq_true rfl) (fun v19 => ?_)
            have := mz_hi v17
            have := mz_hi v19
            refine mv_icmp_eqZ (tgt := 57) (a := v17.toInt) (b := v19.toInt) d_TrustDeskModel_isWord_52 (by decide) rfl rfl (fun b20 => ?_) (fun b20 => ?_)
            · refine mv_iinc (v := (i2_10 + 1)) (lv' := [(2, .int (i2_10 + 1)), (0, .ref o0), (1, .ref 44)]) d_TrustDeskModel_isWord_57 rfl rfl (by decide) rfl ?_
              refine mv_goto (tgt := 28) d_TrustDeskModel_isWord_60 (by decide) ?_
              have b21 : (i2_10 + 1).toInt = i2_10.toInt + 1 := mz_addn 1 1 (by decide) (by have := mz_lo i2_10; omega) (by have := mz_hi i2_10; omega)
              exact (ih10 (i2_10 + 1) T_10 M_10 n_10 I_10 h_q0_10 (by have := kKR_10.1 15 _ _ rfl; have := kKR_10.1 16 _ _ rfl; have := kKR_10.1 19 _ _ rfl; first | omega | decide | exact fun h9 => absurd (by decide) h9) (by have := kKR_10.1 15 _ _ rfl; have := kKR_10.1 16 _ _ rfl; have := kKR_10.1 19 _ _ rfl; first | omega | decide | exact fun h9 => absurd (by decide) h9) (by have := kKR_10.1 15 _ _ rfl; have := kKR_10.1 16 _ _ rfl; have := kKR_10.1 19 _ _ rfl; first | omega | decide | exact fun h9 => absurd (by decide) h9) (by have := kKR_10.1 15 _ _ rfl; have := kKR_10.1 16 _ _ rfl; have := kKR_10.1 19 _ _ rfl; first | omega | decide | exact fun h9 => absurd (by decide) h9) kKR_10 (by have := kKR_10.1 15 _ _ rfl; have := kKR_10.1 16 _ _ rfl; have := kKR_10.1 19 _ _ rfl; omega))
            · refine mv_iconst (v := 0) d_TrustDeskModel_isWord_55 (by decide) ?_
              exact mv_iret d_TrustDeskModel_isWord_56 rfl (by decide) ⟨_, I_10, _, rfl, by decide, by decide, kKR_10, (fun h => absurd h (by decide))⟩
      exact mv_less (Nat.zero_le _) (Nat.zero_le _) (L28_10 4294967296 0 T0 M0 n0 I0 h_o0 (by have := yR.1 15 _ _ rfl; have := yR.1 16 _ _ rfl; have := yR.1 19 _ _ rfl; first | omega | decide | exact fun h9 => absurd (by decide) h9) (by have := yR.1 15 _ _ rfl; have := yR.1 16 _ _ rfl; have := yR.1 19 _ _ rfl; first | omega | decide | exact fun h9 => absurd (by decide) h9) (by have := yR.1 15 _ _ rfl; have := yR.1 16 _ _ rfl; have := yR.1 19 _ _ rfl; first | omega | decide | exact fun h9 => absurd (by decide) h9) (by have := yR.1 15 _ _ rfl; have := yR.1 16 _ _ rfl; have := yR.1 19 _ _ rfl; first | omega | decide | exact fun h9 => absurd (by decide) h9) yR (by show (2147483647 - (0 : Int) : Int) < _; decide))
    · refine mv_iconst (v := 0) d_TrustDeskModel_isWord_24 (by decide) ?_
      exact mv_iret d_TrustDeskModel_isWord_25 rfl (by decide) ⟨_, I0, _, rfl, by decide, by decide, yR, (fun h => absurd h (by decide))⟩
theorem d_TrustDeskModel_readClause_29 : decode kY_TrustDeskModel_readClause.2.1 29 = .ok (.ifCond .ne 11, 3) := by decide +kernel
theorem d_TrustDeskModel_readClause_32 : decode kY_TrustDeskModel_readClause.2.1 32 = .ok (.aload_n 0, 1) := by decide +kernel
theorem d_TrustDeskModel_readClause_33 : decode kY_TrustDeskModel_readClause.2.1 33 = .ok (.iconst 1, 1) := by decide +kernel
theorem d_TrustDeskModel_readClause_34 : decode kY_TrustDeskModel_readClause.2.1 34 = .ok (.invokevirtual 240, 3) := by decide +kernel
theorem d_TrustDeskModel_readClause_37 : decode kY_TrustDeskModel_readClause.2.1 37 = .ok (.goto 33, 3) := by decide +kernel
def w_TrustDeskModel_readClause_x : List Nat := [1315, 1316, 1317, 1318, 1319, 1320, 1322, 1324, 20004, 20005, 20006, 20007, 20008, 20009, 20010, 20011, 20012, 20025, 20026]
theorem tc_TrustDeskModel_readClause_x {g : mj_G} {l : Launch} {d : Nat} {T0 : tm_H} {M0 : mj_M} {n0 x9 : Nat} {o0 : Nat} (h_o0 : T0 o0 = some (0, 13, 0)) (yR : rI M0 o0) (yWW : rW M0 o0) (yw : rv M0 o0 19 = 0) (yo : rv M0 o0 17 ≠ 0) (yq : rv M0 o0 22 = 0) (I0 : tm_I tm_FT (tm_in w_TrustDeskModel_readClause_x) x9 T0 M0 n0 T0 M0 n0) : mj_Met g l kY_TrustDeskModel_readClause (d + 26) [.ref o0] M0 n0 0 0 (tm_Q tm_FT (tm_in w_TrustDeskModel_readClause_x) x9 T0 M0 n0 (fun r _ M => r = none ∧ rI M o0 ∧ (rW M o0) ∧ (rO M0 M o0) ∧ (rv M0 o0 16 ≤ rv M o0 16 ∧ (rv M o0 19 = 0 → rv M0 o0 16 < rv M o0 16)) ∧ (rv M o0 19 = 0 → rv M o0 22 = 0) ∧ (rwE M0 o0 → rv M o0 19 = 0 → ra M o0 7 (880 + ra M0 o0 6 44).toNat = 8 ∧ ra M o0 6 44 = ra M0 o0 6 44 + 1))) := by
  refine mj_enter (by decide) (Nat.le_of_ble_eq_true rfl) ?_
  have yT := yWW.1
  have yS : rv M0 o0 19 = 0 → ra M0 o0 5 44 ≤ rv M0 o0 16 := fun h9 => (yWW.2 h9).1
  have yG := (yWW.2 yw).2
  have yN := yG.2.2
  have := yR.2 6 _ _ rfl 44
  have yE0 := rE.rf yT
  have K1 : rK M0 M0 o0 ((880 + ra M0 o0 6 44).toNat) := rK.rf
  have K2 : nN M0 o0 := yN
  refine mv_aload_n d_TrustDeskModel_readClause_0 rfl rfl ?_
  refine mv_ldcSw (id := 42) (tx := "end") d_TrustDeskModel_readClause_1 (List.mem_of_getElem? (i := 32) rfl) ?_
  obtain ⟨_, b9, -⟩ := I0.1 _ _ h_o0
  refine mv_callV (kc' := 0) (ks' := 0) (As := [.ref 42]) (st9 := [.ref 42, .ref o0]) d_TrustDeskModel_readClause_4 lV_TrustDeskModel_244 b9 rfl (tc_TrustDeskModel_isWord_s1_42_x (d := (d + 21)) (x9 := x9) (o0 := o0) h_o0 yR I0.start) rfl (Nat.le_of_ble_eq_true rfl) (Nat.le_of_ble_eq_true rfl) (Nat.le_of_ble_eq_true rfl) (hst := rfl) (fun b3r M4 n5 b3 => ?_)
  obtain ⟨T6, J7, v10, rfl, b11, b12, R13, f14, f15, f16⟩ := b3
  have I8 := I0.call J7 (tm_sub (by decide)) (Or.inl rfl)
  have t17 := J7.up h_o0
  have := (rv_c I0 J7 (I0.up h_o0) (k := 15) rfl)
  have := (rv_c I0 J7 (I0.up h_o0) (k := 16) rfl)
  have := (rv_c I0 J7 (I0.up h_o0) (k := 17) rfl)
  have := (rv_c I0 J7 (I0.up h_o0) (k := 19) rfl)
  have := (rv_c I0 J7 (I0.up h_o0) (k := 22) rfl)
  have := (rv_c I0 J7 (I0.up h_o0) (k := 24) rfl)
  have := ra_call I0 J7 (I0.up h_o0) (k := 5) rfl rfl rfl 44
  have := ra_call I0 J7 (I0.up h_o0) (k := 6) rfl rfl rfl 44
  have E18 : rE M0 M4 o0 0 0 := yE0.same (rE_hv I0 J7 (I0.up h_o0) 15 19 (by decide)) (rE_ha I0 J7 (I0.up h_o0) (by decide))
  have K19 : rK M0 M4 o0 ((880 + ra M0 o0 6 44).toNat) := K1.same (sA_c I0 J7 (I0.up h_o0) (by decide))
  have K20 : nN M4 o0 := K2.same (sA_c I0 J7 (I0.up h_o0) (by decide)) (sF_c I0 J7 (I0.up h_o0) (by decide))
  refine mv_istore_n (lv' := [(1, .int v10), (0, .ref o0)]) d_TrustDeskModel_readClause_7 rfl (by decide) rfl ?_
  refine mv_iload_n d_TrustDeskModel_readClause_8 rfl rfl ?_
  have := mz_hi v10
  refine mv_if_neZ (tgt := 40) (a := v10.toInt) d_TrustDeskModel_readClause_9 (by decide) rfl (fun b21 => ?_) (fun b21 => ?_)
  · refine mv_aload_n d_TrustDeskModel_readClause_40 rfl rfl ?_
    obtain ⟨a23, q22, t_a23⟩ := tm_atR I8 t17 (k := 6) rfl
    refine tr_getK q22 d_TrustDeskModel_readClause_41 f_TrustDeskModel_23_13 ?_
    refine mv_bipush (v := 44) d_TrustDeskModel_readClause_44 (by decide) ?_
    refine tr_ialdR (o := o0) (k := 6) I8 q22 t_a23 (by decide) d_TrustDeskModel_readClause_46 (by unfold vp_in; decide) (fun v24 e25 => ?_)
    have := R13.a (k := 6) rfl (44 : Int32).toNatClampNeg
    have : v24.toInt = ra M4 o0 6 44 := e25
    refine mv_bipush (v := 12) d_TrustDeskModel_readClause_47 (by decide) ?_
    have := mz_hi v24
    refine mv_icmp_eqZ (tgt := 65) (a := v24.toInt) (b := 12) d_TrustDeskModel_readClause_49 (by decide) rfl (by decide) (fun b26 => ?_) (fun b26 => ?_)
    · refine mv_aload_n d_TrustDeskModel_readClause_65 rfl rfl ?_
      refine mv_iconst (v := 4) d_TrustDeskModel_readClause_66 (by decide) ?_
      obtain ⟨_, b33, -⟩ := I8.1 _ _ t17
      have : (4 : Int32).toInt = 4 := by decide
      refine mv_callV (kc' := 0) (ks' := 0) (As := [.int 4]) (st9 := [.int 4, .ref o0]) d_TrustDeskModel_readClause_67 lV_TrustDeskModel_240 b33 rfl (tc_TrustDeskModel_fails_x (d := (d + 25)) (x9 := x9) (o0 := o0) (x1 := 4) t17 R13 (by decide) I8.start) rfl (Nat.le_of_ble_eq_true rfl) (Nat.le_of_ble_eq_true rfl) (Nat.le_of_ble_eq_true rfl) (hst := rfl) (fun b27r M28 n29 b27 => ?_)
      obtain ⟨T30, J31, rfl, R34, f35⟩ := b27
      have I32 := I8.call J31 (tm_sub (by decide)) (Or.inl rfl)
      have t36 := J31.up t17
      have := (rv_c I8 J31 (I8.up h_o0) (k := 15) rfl)
      have := (rv_c I8 J31 (I8.up h_o0) (k := 16) rfl)
      have := (rv_c I8 J31 (I8.up h_o0) (k := 17) rfl)
      have := (rv_c I8 J31 (I8.up h_o0) (k := 22) rfl)
      have := (rv_c I8 J31 (I8.up h_o0) (k := 24) rfl)
      have := ra_call I8 J31 (I8.up h_o0) (k := 5) rfl rfl rfl 44
      have := ra_call I8 J31 (I8.up h_o0) (k := 6) rfl rfl rfl 44
      have E37 : rE M0 M28 o0 0 0 := E18.fails (rE_hv I8 J31 (I8.up h_o0) 15 18 (by decide)) (rE_ha I8 J31 (I8.up h_o0) (by decide)) f35 0 0
      have K38 : rK M0 M28 o0 ((880 + ra M0 o0 6 44).toNat) := K19.same (sA_c I8 J31 (I8.up h_o0) (by decide))
      have K39 : nN M28 o0 := K20.same (sA_c I8 J31 (I8.up h_o0) (by decide)) (sF_c I8 J31 (I8.up h_o0) (by decide))
      have q40 := J31.keep t17 (by decide) q22
      have t41 := J31.up t_a23
      refine mv_aload_n d_TrustDeskModel_readClause_70 rfl rfl ?_
      obtain ⟨_, b42, -⟩ := I32.1 _ _ t36
      refine mv_callV (kc1 := 0) (ks1 := 0) (kc' := 0) (ks' := 0) (As := []) (st9 := [.ref o0]) d_TrustDeskModel_readClause_71 lV_TrustDeskModel_230 b42 rfl (mj_enter (by decide) (Nat.le_of_ble_eq_true rfl) ?_) rfl (Nat.le_of_ble_eq_true rfl) (Nat.le_of_ble_eq_true rfl) (Nat.le_of_ble_eq_true rfl) (hst := rfl) (fun _ _ _ h => h)
      refine mv_aload_n d_TrustDeskModel_isWell_0 rfl rfl ?_
      obtain ⟨v44, q43⟩ := tm_atI I32 t36 (k := 19) rfl
      refine tr_getK q43 d_TrustDeskModel_isWell_1 f_TrustDeskModel_224_13 ?_
      have := R34.f (k := 19) q43 rfl
      have := tm_rv q43
      refine mv_if_neZ (tgt := 11) (a := v44.toInt) d_TrustDeskModel_isWell_4 (by decide) rfl (fun b45 => ?_) (fun b45 => ?_)
      · refine mv_iconst (v := 0) d_TrustDeskModel_isWell_11 (by decide) ?_
        refine mv_iret d_TrustDeskModel_isWell_12 rfl (by decide) ?_
        refine mv_if_ne_f (tgt := 78) d_TrustDeskModel_readClause_74 (by decide) (by decide) ?_
        exact mv_vret d_TrustDeskModel_readClause_77 rfl ⟨_, I32, rfl, R34, (rW.of E37.1 (fun h9 => absurd h9 (by have := R34.1 15 _ _ rfl; have := R34.1 16 _ _ rfl; have := R34.1 19 _ _ rfl; have := E37.f yS; omega)) (fun h9 => absurd h9 (by have := R34.1 15 _ _ rfl; have := R34.1 16 _ _ rfl; have := R34.1 19 _ _ rfl; have := E37.f yS; omega))), (rO.of E37 K38 (by have := yR.2 6 _ _ rfl 44; omega)), (by have := R34.1 15 _ _ rfl; have := R34.1 16 _ _ rfl; have := R34.1 19 _ _ rfl; have := E37.f yS; omega), (by have := R34.1 15 _ _ rfl; have := R34.1 16 _ _ rfl; have := R34.1 19 _ _ rfl; have := E37.f yS; omega), (fun _ h9 => absurd h9 (by have := R34.1 15 _ _ rfl; have := R34.1 16 _ _ rfl; have := R34.1 19 _ _ rfl; have := E37.f yS; omega))⟩
      · exfalso
        have := R34.1 15 _ _ rfl; have := R34.1 16 _ _ rfl; have := R34.1 19 _ _ rfl; have := E37.f yS; omega
    · refine mv_iload_n d_TrustDeskModel_readClause_52 rfl rfl ?_
      have := mz_hi v10
      refine mv_if_eqZ (tgt := 70) (a := v10.toInt) d_TrustDeskModel_readClause_53 (by decide) rfl (fun b46 => ?_) (fun b46 => ?_)
      · refine mv_aload_n d_TrustDeskModel_readClause_70 rfl rfl ?_
        obtain ⟨_, b47, -⟩ := I8.1 _ _ t17
        refine mv_callV (kc1 := 0) (ks1 := 0) (kc' := 0) (ks' := 0) (As := []) (st9 := [.ref o0]) d_TrustDeskModel_readClause_71 lV_TrustDeskModel_230 b47 rfl (mj_enter (by decide) (Nat.le_of_ble_eq_true rfl) ?_) rfl (Nat.le_of_ble_eq_true rfl) (Nat.le_of_ble_eq_true rfl) (Nat.le_of_ble_eq_true rfl) (hst := rfl) (fun _ _ _ h => h)
        refine mv_aload_n d_TrustDeskModel_isWell_0 rfl rfl ?_
        obtain ⟨v49, q48⟩ := tm_atI I8 t17 (k := 19) rfl
        refine tr_getK q48 d_TrustDeskModel_isWell_1 f_TrustDeskModel_224_13 ?_
        have := R13.f (k := 19) q48 rfl
        have := tm_rv q48
        have := mz_hi v49
        refine mv_if_neZ (tgt := 11) (a := v49.toInt) d_TrustDeskModel_isWell_4 (by decide) rfl (fun b50 => ?_) (fun b50 => ?_)
        · refine mv_iconst (v := 0) d_TrustDeskModel_isWell_11 (by decide) ?_
          refine mv_iret d_TrustDeskModel_isWell_12 rfl (by decide) ?_
          refine mv_if_ne_f (tgt := 78) d_TrustDeskModel_readClause_74 (by decide) (by decide) ?_
          exact mv_vret d_TrustDeskModel_readClause_77 rfl ⟨_, I8, rfl, R13, (rW.of E18.1 (fun w9 => (by have := R13.1 15 _ _ rfl; have := R13.1 16 _ _ rfl; have := R13.1 19 _ _ rfl; have := E18.f yS; omega)) (fun w9 => rG.step yG yR E18 w9 K19 (by have := yR.2 6 _ _ rfl 44; omega) (by have := R13.1 15 _ _ rfl; have := R13.1 16 _ _ rfl; have := R13.1 19 _ _ rfl; have := E18.f yS; omega) (by have := R13.1 15 _ _ rfl; have := R13.1 16 _ _ rfl; have := R13.1 19 _ _ rfl; have := E18.f yS; omega) (fun h9 => by exfalso; have := R13.1 15 _ _ rfl; have := R13.1 16 _ _ rfl; have := R13.1 19 _ _ rfl; have := E18.f yS; omega) (fun h9 => (by have := R13.1 15 _ _ rfl; have := R13.1 16 _ _ rfl; have := R13.1 19 _ _ rfl; have := E18.f yS; omega)) (by have := R13.1 15 _ _ rfl; have := R13.1 16 _ _ rfl; have := R13.1 19 _ _ rfl; have := E18.f yS; omega) K20)), (rO.of E18 K19 (by have := yR.2 6 _ _ rfl 44; omega)), (by have := R13.1 15 _ _ rfl; have := R13.1 16 _ _ rfl; have := R13.1 19 _ _ rfl; have := E18.f yS; omega), (by have := R13.1 15 _ _ rfl; have := R13.1 16 _ _ rfl; have := R13.1 19 _ _ rfl; have := E18.f yS; omega), (fun h9 _ => absurd h9 (f16 (by have := R13.1 15 _ _ rfl; have := R13.1 16 _ _ rfl; have := R13.1 19 _ _ rfl; have := E18.f yS; omega)))⟩
        · refine mv_iconst (v := 1) d_TrustDeskModel_isWell_7 (by decide) ?_
          refine mv_goto (tgt := 12) d_TrustDeskModel_isWell_8 (by decide) ?_
          refine mv_iret d_TrustDeskModel_isWell_12 rfl (by decide) ?_
          refine mv_if_ne_t (tgt := 78) d_TrustDeskModel_readClause_74 (by decide) (by decide) ?_
          refine mv_aload_n d_TrustDeskModel_readClause_78 rfl rfl ?_
          refine mv_ldcSw (id := 43) (tx := "mark") d_TrustDeskModel_readClause_79 (List.mem_of_getElem? (i := 33) rfl) ?_
          obtain ⟨_, b57, -⟩ := I8.1 _ _ t17
          refine mv_callV (kc' := 0) (ks' := 0) (As := [.ref 43]) (st9 := [.ref 43, .ref o0]) d_TrustDeskModel_readClause_82 lV_TrustDeskModel_244 b57 rfl (tc_TrustDeskModel_isWord_s1_43_x (d := (d + 21)) (x9 := x9) (o0 := o0) t17 R13 I8.start) rfl (Nat.le_of_ble_eq_true rfl) (Nat.le_of_ble_eq_true rfl) (Nat.le_of_ble_eq_true rfl) (hst := rfl) (fun b51r M52 n53 b51 => ?_)
          obtain ⟨T54, J55, v58, rfl, b59, b60, R61, f62⟩ := b51
          have I56 := I8.call J55 (tm_sub (by decide)) (Or.inl rfl)
          have t63 := J55.up t17
          have := (rv_c I8 J55 (I8.up h_o0) (k := 15) rfl)
          have := (rv_c I8 J55 (I8.up h_o0) (k := 16) rfl)
          have := (rv_c I8 J55 (I8.up h_o0) (k := 17) rfl)
          have := (rv_c I8 J55 (I8.up h_o0) (k := 19) rfl)
          have := (rv_c I8 J55 (I8.up h_o0) (k := 22) rfl)
          have := (rv_c I8 J55 (I8.up h_o0) (k := 24) rfl)
          have := ra_call I8 J55 (I8.up h_o0) (k := 5) rfl rfl rfl 44
          have := ra_call I8 J55 (I8.up h_o0) (k := 6) rfl rfl rfl 44
          have E64 : rE M0 M52 o0 0 0 := E18.same (rE_hv I8 J55 (I8.up h_o0) 15 19 (by decide)) (rE_ha I8 J55 (I8.up h_o0) (by decide))
          have K65 : rK M0 M52 o0 ((880 + ra M0 o0 6 44).toNat) := K19.same (sA_c I8 J55 (I8.up h_o0) (by decide))
          have K66 : nN M52 o0 := K20.same (sA_c I8 J55 (I8.up h_o0) (by decide)) (sF_c I8 J55 (I8.up h_o0) (by decide))
          have q67 := J55.keep t17 (by decide) q22
          have t68 := J55.up t_a23
          have q69 := J55.keep t17 (by decide) q48
          refine mv_istore_n (lv' := [(2, .int v58), (1, .int v10), (0, .ref o0)]) d_TrustDeskModel_readClause_85 rfl (by decide) rfl ?_
          refine mv_aload_n d_TrustDeskModel_readClause_86 rfl rfl ?_
          refine mv_iload_n d_TrustDeskModel_readClause_87 rfl rfl ?_
          have := mz_hi v10
          refine mv_if_eqZ (tgt := 96) (a := v10.toInt) d_TrustDeskModel_readClause_88 (by decide) rfl (fun b70 => ?_) (fun b70 => absurd b70 (by omega))
          refine mv_iload_n d_TrustDeskModel_readClause_96 rfl rfl ?_
          have := mz_hi v58
          refine mv_if_eqZ (tgt := 105) (a := v58.toInt) d_TrustDeskModel_readClause_97 (by decide) rfl (fun b71 => ?_) (fun b71 => ?_)
          · refine mv_bipush (v := 9) d_TrustDeskModel_readClause_105 (by decide) ?_
            obtain ⟨_, b78, -⟩ := I56.1 _ _ t63
            have : (9 : Int32).toInt = 9 := by decide
            refine mv_callV (kc' := 0) (ks' := 0) (As := [.int 9]) (st9 := [.int 9, .ref o0]) d_TrustDeskModel_readClause_107 lV_TrustDeskModel_342 b78 rfl (tc_TrustDeskModel_begin_x (d := (d + 23)) (x9 := x9) (o0 := o0) (x1 := 9) t63 R61 E64.1 (by have := R61.1 15 _ _ rfl; have := R61.1 16 _ _ rfl; have := R61.1 19 _ _ rfl; have := E64.f yS; omega) (by have := R61.1 15 _ _ rfl; have := R61.1 16 _ _ rfl; have := R61.1 19 _ _ rfl; have := E64.f yS; omega) (by have := R61.1 15 _ _ rfl; have := R61.1 16 _ _ rfl; have := R61.1 19 _ _ rfl; have := E64.f yS; omega) (by have := R61.1 15 _ _ rfl; have := R61.1 16 _ _ rfl; have := R61.1 19 _ _ rfl; have := E64.f yS; omega) I56.start) rfl (Nat.le_of_ble_eq_true rfl) (Nat.le_of_ble_eq_true rfl) (Nat.le_of_ble_eq_true rfl) (hst := rfl) (fun b72r M73 n74 b72 => ?_)
            obtain ⟨T75, J76, v79, rfl, R80, f81, f82, f83, f84, f85, f86⟩ := b72
            have I77 := I56.call J76 (tm_sub (by decide)) (Or.inl rfl)
            have t87 := J76.up t63
            have := (rv_c I56 J76 (I56.up h_o0) (k := 19) rfl)
            have := (rv_c I56 J76 (I56.up h_o0) (k := 22) rfl)
            have := (rv_c I56 J76 (I56.up h_o0) (k := 24) rfl)
            have := ra_call I56 J76 (I56.up h_o0) (k := 5) rfl rfl rfl 44
            have E88 : rE M0 M73 o0 0 1 := E64.trans f81 (by decide) (yR.2 5 _ _ rfl 44).1 (by decide) (by decide)
            have := f81.w
            have := f81.w2
            have h89 : (880 + ra M52 o0 6 44).toNat = (880 + ra M0 o0 6 44).toNat := by omega
            rw [h89] at f84 f85 f86
            have K90 : rK M0 M73 o0 ((880 + ra M0 o0 6 44).toNat) := K65.trans f86
            have K91 : nN M73 o0 := K66.same (sA_c I56 J76 (I56.up h_o0) (by decide)) (sF_c I56 J76 (I56.up h_o0) (by decide))
            have q92 := J76.keep t63 (by decide) q67
            have t93 := J76.up t68
            have q94 := J76.keep t63 (by decide) q69
            refine mv_istore_n (lv' := [(3, .int v79), (2, .int v58), (1, .int v10), (0, .ref o0)]) d_TrustDeskModel_readClause_110 rfl (by decide) rfl ?_
            refine mv_iload_n d_TrustDeskModel_readClause_111 rfl rfl ?_
            have := mz_hi v10
            refine mv_if_eqZ (tgt := 123) (a := v10.toInt) d_TrustDeskModel_readClause_112 (by decide) rfl (fun b95 => ?_) (fun b95 => absurd b95 (by omega))
            refine mv_iload_n d_TrustDeskModel_readClause_123 rfl rfl ?_
            have := mz_hi v58
            refine mv_if_eqZ (tgt := 135) (a := v58.toInt) d_TrustDeskModel_readClause_124 (by decide) rfl (fun b96 => ?_) (fun b96 => absurd b96 (by omega))
            refine mv_aload_n d_TrustDeskModel_readClause_135 rfl rfl ?_
            obtain ⟨a98, q97, t_a98⟩ := tm_atR I77 t87 (k := 8) rfl
            refine tr_getK q97 d_TrustDeskModel_readClause_136 f_TrustDeskModel_29_13 ?_
            refine mv_iload_n d_TrustDeskModel_readClause_139 rfl rfl ?_
            refine mv_aload_n d_TrustDeskModel_readClause_140 rfl rfl ?_
            refine mv_iconst (v := 1) d_TrustDeskModel_readClause_141 (by decide) ?_
            refine mv_bipush (v := 7) d_TrustDeskModel_readClause_142 (by decide) ?_
            obtain ⟨_, b105, -⟩ := I77.1 _ _ t87
            have : (1 : Int32).toInt = 1 := by decide
            have : (7 : Int32).toInt = 7 := by decide
            refine mv_callV (kc' := 0) (ks' := 0) (As := [.int 1, .int 7]) (st9 := [.int 7, .int 1, .ref o0, .int v79, .ref a98]) d_TrustDeskModel_readClause_144 lV_TrustDeskModel_317 b105 rfl (tc_TrustDeskModel_number_x (d := (d + 23)) (x9 := x9) (o0 := o0) (x1 := 1) (x2 := 7) t87 R80 E88.1 (by have := R80.1 15 _ _ rfl; have := R80.1 16 _ _ rfl; have := R80.1 19 _ _ rfl; have := E88.f yS; omega) I77.start) rfl (Nat.le_of_ble_eq_true rfl) (Nat.le_of_ble_eq_true rfl) (Nat.le_of_ble_eq_true rfl) (hst := rfl) (fun b99r M100 n101 b99 => ?_)
            obtain ⟨T102, J103, v106, rfl, R107, f108, f109⟩ := b99
            have I104 := I77.call J103 (tm_sub (by decide)) (Or.inl rfl)
            have t110 := J103.up t87
            have t111 := J103.up t_a98
            have := (rv_c I77 J103 (I77.up h_o0) (k := 22) rfl)
            have := (rv_c I77 J103 (I77.up h_o0) (k := 24) rfl)
            have := ra_call I77 J103 (I77.up h_o0) (k := 5) rfl rfl rfl 44
            have := ra_call I77 J103 (I77.up h_o0) (k := 6) rfl rfl rfl 44
            have E112 : rE M0 M100 o0 0 2 := E88.trans f108 (by decide) (yR.2 5 _ _ rfl 44).1 (by decide) (by decide)
            have := f108.w
            have := f108.w2
            have := ra_call I77 J103 (I77.up h_o0) (k := 7) rfl rfl rfl ((880 + ra M0 o0 6 44).toNat)
            have := ra_call I77 J103 (I77.up h_o0) (k := 10) rfl rfl rfl ((880 + ra M0 o0 6 44).toNat)
            have K113 : rK M0 M100 o0 ((880 + ra M0 o0 6 44).toNat) := K90.same (sA_c I77 J103 (I77.up h_o0) (by decide))
            have K114 : nN M100 o0 := K91.same (sA_c I77 J103 (I77.up h_o0) (by decide)) (sF_c I77 J103 (I77.up h_o0) (by decide))
            have q115 := J103.keep t87 (by decide) q92
            have t116 := J103.up t93
            have q117 := J103.keep t87 (by decide) q97
            refine tr_iastR (k := 8) I104 R107 (I104.up h_o0) q117 t111 (by decide) (by decide) (fun lo hi h => by cases h; have := R107.1 15 _ _ rfl; have := R107.1 16 _ _ rfl; have := R107.1 19 _ _ rfl; have := E112.f yS; exact ⟨by show ((-1) : Int) ≤ v106.toInt; omega, by show v106.toInt ≤ (720 : Int); omega⟩) (Or.inl (by decide)) d_TrustDeskModel_readClause_147 (vp_in_iff.mpr (by have := R107.1 15 _ _ rfl; have := R107.1 16 _ _ rfl; have := R107.1 19 _ _ rfl; have := E112.f yS; omega)) (fun M118 I119 K120 R121 E122 A123 V124 => ?_)
            have := V124 15
            have := V124 16
            have := V124 17
            have := V124 19
            have := V124 22
            have := V124 24
            have := A123 5 (by decide) rfl 44
            have := A123 6 (by decide) rfl 44
            have E125 : rE M0 M118 o0 0 2 := E112.same (fun k _ _ => V124 k) (fun k h1 h2 => A123 k (by omega) (by rcases (show k = 4 ∨ k = 5 by omega) with rfl | rfl <;> rfl))
            have := A123 7 (by decide) rfl ((880 + ra M0 o0 6 44).toNat)
            have := A123 10 (by decide) rfl ((880 + ra M0 o0 6 44).toNat)
            have h126 : (880 + ra M0 o0 6 44).toNat = v79.toNatClampNeg := by have := mz_nat9 (i := v79) (by have := R107.1 15 _ _ rfl; have := R107.1 16 _ _ rfl; have := R107.1 19 _ _ rfl; have := E112.f yS; omega); have := R107.1 15 _ _ rfl; have := R107.1 16 _ _ rfl; have := R107.1 19 _ _ rfl; have := E112.f yS; omega
            have : ra M118 o0 8 ((880 + ra M0 o0 6 44).toNat) = v106.toInt := (E122 _).trans (if_pos h126)
            have K127 : rK M0 M118 o0 ((880 + ra M0 o0 6 44).toNat) := K113.st A123 E122 (by have := mz_nat9 (i := v79) (by have := R107.1 15 _ _ rfl; have := R107.1 16 _ _ rfl; have := R107.1 19 _ _ rfl; have := E112.f yS; omega); have := R107.1 15 _ _ rfl; have := R107.1 16 _ _ rfl; have := R107.1 19 _ _ rfl; have := E112.f yS; omega)
            have K128 : nN M118 o0 := K114.same (sA_a A123 (by decide)) (sF_a V124)
            refine mv_aload_n d_TrustDeskModel_readClause_148 rfl rfl ?_
            obtain ⟨a130, q129, t_a130⟩ := tm_atR I119 t110 (k := 9) rfl
            refine tr_getK q129 d_TrustDeskModel_readClause_149 f_TrustDeskModel_32_13 ?_
            refine mv_iload_n d_TrustDeskModel_readClause_152 rfl rfl ?_
            refine mv_aload_n d_TrustDeskModel_readClause_153 rfl rfl ?_
            refine mv_iconst (v := 1) d_TrustDeskModel_readClause_154 (by decide) ?_
            refine mv_aload_n d_TrustDeskModel_readClause_155 rfl rfl ?_
            refine tr_getK (k := 8) (K120 _ 13 8 _ q117) d_TrustDeskModel_readClause_156 f_TrustDeskModel_29_13 ?_
            refine mv_iload_n d_TrustDeskModel_readClause_159 rfl rfl ?_
            refine tr_ialdR (o := o0) (k := 8) I119 (K120 _ 13 8 _ q117) t111 (by decide) d_TrustDeskModel_readClause_160 (vp_in_iff.mpr (by have := R121.1 15 _ _ rfl; have := R121.1 16 _ _ rfl; have := R121.1 19 _ _ rfl; have := E125.f yS; omega)) (fun v131 e132 => ?_)
            have := R121.a (k := 8) rfl (v79 : Int32).toNatClampNeg
            have h133 : (880 + ra M0 o0 6 44).toNat = v79.toNatClampNeg := by have := mz_nat9 (i := v79) (by have := R121.1 15 _ _ rfl; have := R121.1 16 _ _ rfl; have := R121.1 19 _ _ rfl; have := E125.f yS; omega); have := R121.1 15 _ _ rfl; have := R121.1 16 _ _ rfl; have := R121.1 19 _ _ rfl; have := E125.f yS; omega
            have : v131.toInt = ra M118 o0 8 ((880 + ra M0 o0 6 44).toNat) := by rw [e132, h133]
            obtain ⟨_, b140, -⟩ := I119.1 _ _ t110
            have : (1 : Int32).toInt = 1 := by decide
            refine mv_callV (kc' := 0) (ks' := 0) (As := [.int 1, .int v131]) (st9 := [.int v131, .int 1, .ref o0, .int v79, .ref a130]) d_TrustDeskModel_readClause_161 lV_TrustDeskModel_317 b140 rfl (tc_TrustDeskModel_number_x (d := (d + 23)) (x9 := x9) (o0 := o0) (x1 := 1) (x2 := v131) t110 R121 E125.1 (by have := R121.1 15 _ _ rfl; have := R121.1 16 _ _ rfl; have := R121.1 19 _ _ rfl; have := E125.f yS; omega) I119.start) rfl (Nat.le_of_ble_eq_true rfl) (Nat.le_of_ble_eq_true rfl) (Nat.le_of_ble_eq_true rfl) (hst := rfl) (fun b134r M135 n136 b134 => ?_)
            obtain ⟨T137, J138, v141, rfl, R142, f143, f144⟩ := b134
            have I139 := I119.call J138 (tm_sub (by decide)) (Or.inl rfl)
            have t145 := J138.up t110
            have t146 := J138.up t_a130
            have := (rv_c I119 J138 (I119.up h_o0) (k := 22) rfl)
            have := (rv_c I119 J138 (I119.up h_o0) (k := 24) rfl)
            have := ra_call I119 J138 (I119.up h_o0) (k := 5) rfl rfl rfl 44
            have := ra_call I119 J138 (I119.up h_o0) (k := 6) rfl rfl rfl 44
            have E147 : rE M0 M135 o0 0 3 := E125.trans f143 (by decide) (yR.2 5 _ _ rfl 44).1 (by decide) (by decide)
            have := f143.w
            have := f143.w2
            have := ra_call I119 J138 (I119.up h_o0) (k := 7) rfl rfl rfl ((880 + ra M0 o0 6 44).toNat)
            have := ra_call I119 J138 (I119.up h_o0) (k := 10) rfl rfl rfl ((880 + ra M0 o0 6 44).toNat)
            have := ra_call I119 J138 (I119.up h_o0) (k := 8) rfl rfl rfl ((880 + ra M0 o0 6 44).toNat)
            have K148 : rK M0 M135 o0 ((880 + ra M0 o0 6 44).toNat) := K127.same (sA_c I119 J138 (I119.up h_o0) (by decide))
            have K149 : nN M135 o0 := K128.same (sA_c I119 J138 (I119.up h_o0) (by decide)) (sF_c I119 J138 (I119.up h_o0) (by decide))
            have q150 := J138.keep t110 (by decide) (K120 _ 13 6 _ q115)
            have t151 := J138.up t116
            have q152 := J138.keep t110 (by decide) (K120 _ 13 8 _ q117)
            have t153 := J138.up t111
            have q154 := J138.keep t110 (by decide) q129
            refine tr_iastR (k := 9) I139 R142 (I139.up h_o0) q154 t146 (by decide) (by decide) (fun lo hi h => by cases h) (Or.inl (by decide)) d_TrustDeskModel_readClause_164 (vp_in_iff.mpr (by have := R142.1 15 _ _ rfl; have := R142.1 16 _ _ rfl; have := R142.1 19 _ _ rfl; have := E147.f yS; omega)) (fun M155 I156 K157 R158 E159 A160 V161 => ?_)
            have := V161 15
            have := V161 16
            have := V161 17
            have := V161 19
            have := V161 22
            have := V161 24
            have := A160 5 (by decide) rfl 44
            have := A160 6 (by decide) rfl 44
            have E162 : rE M0 M155 o0 0 3 := E147.same (fun k _ _ => V161 k) (fun k h1 h2 => A160 k (by omega) (by rcases (show k = 4 ∨ k = 5 by omega) with rfl | rfl <;> rfl))
            have := A160 7 (by decide) rfl ((880 + ra M0 o0 6 44).toNat)
            have := A160 10 (by decide) rfl ((880 + ra M0 o0 6 44).toNat)
            have := A160 8 (by decide) rfl ((880 + ra M0 o0 6 44).toNat)
            have K163 : rK M0 M155 o0 ((880 + ra M0 o0 6 44).toNat) := K148.same (sA_a A160 (by decide))
            have K164 : nN M155 o0 := K149.same (sA_a A160 (by decide)) (sF_a V161)
            refine mv_aload_n d_TrustDeskModel_readClause_165 rfl rfl ?_
            refine mv_bipush (v := 59) d_TrustDeskModel_readClause_166 (by decide) ?_
            obtain ⟨_, b171, -⟩ := I156.1 _ _ t145
            have : (59 : Int32).toInt = 59 := by decide
            refine mv_callV (kc' := 0) (ks' := 0) (As := [.int 59]) (st9 := [.int 59, .ref o0]) d_TrustDeskModel_readClause_168 lV_TrustDeskModel_291 b171 rfl (tc_TrustDeskModel_wantSign_x (d := (d + 23)) (x9 := x9) (o0 := o0) (x1 := 59) t145 R158 E162.1 (by have := R158.1 15 _ _ rfl; have := R158.1 16 _ _ rfl; have := R158.1 19 _ _ rfl; have := E162.f yS; omega) I156.start) rfl (Nat.le_of_ble_eq_true rfl) (Nat.le_of_ble_eq_true rfl) (Nat.le_of_ble_eq_true rfl) (hst := rfl) (fun b165r M166 n167 b165 => ?_)
            obtain ⟨T168, J169, rfl, R172, f173⟩ := b165
            have I170 := I156.call J169 (tm_sub (by decide)) (Or.inl rfl)
            have t174 := J169.up t145
            have := (rv_c I156 J169 (I156.up h_o0) (k := 22) rfl)
            have := (rv_c I156 J169 (I156.up h_o0) (k := 24) rfl)
            have := ra_call I156 J169 (I156.up h_o0) (k := 5) rfl rfl rfl 44
            have := ra_call I156 J169 (I156.up h_o0) (k := 6) rfl rfl rfl 44
            have E175 : rE M0 M166 o0 0 4 := E162.trans f173 (by decide) (yR.2 5 _ _ rfl 44).1 (by decide) (by decide)
            have := f173.w
            have := f173.w2
            have := ra_call I156 J169 (I156.up h_o0) (k := 7) rfl rfl rfl ((880 + ra M0 o0 6 44).toNat)
            have := ra_call I156 J169 (I156.up h_o0) (k := 10) rfl rfl rfl ((880 + ra M0 o0 6 44).toNat)
            have := ra_call I156 J169 (I156.up h_o0) (k := 8) rfl rfl rfl ((880 + ra M0 o0 6 44).toNat)
            have K176 : rK M0 M166 o0 ((880 + ra M0 o0 6 44).toNat) := K163.same (sA_c I156 J169 (I156.up h_o0) (by decide))
            have K177 : nN M166 o0 := K164.same (sA_c I156 J169 (I156.up h_o0) (by decide)) (sF_c I156 J169 (I156.up h_o0) (by decide))
            have q178 := J169.keep t145 (by decide) (K157 _ 13 6 _ q150)
            have t179 := J169.up t151
            have q180 := J169.keep t145 (by decide) (K157 _ 13 8 _ q152)
            have t181 := J169.up t153
            have q182 := J169.keep t145 (by decide) (K157 _ 13 9 _ q154)
            have t183 := J169.up t146
            refine mv_aload_n d_TrustDeskModel_readClause_171 rfl rfl ?_
            obtain ⟨a185, q184, t_a185⟩ := tm_atR I170 t174 (k := 12) rfl
            refine tr_getK q184 d_TrustDeskModel_readClause_172 f_TrustDeskModel_41_13 ?_
            refine mv_iload_n d_TrustDeskModel_readClause_175 rfl rfl ?_
            refine mv_aload_n d_TrustDeskModel_readClause_176 rfl rfl ?_
            obtain ⟨a187, q186, t_a187⟩ := tm_atR I170 t174 (k := 5) rfl
            refine tr_getK q186 d_TrustDeskModel_readClause_177 f_TrustDeskModel_20_13 ?_
            refine mv_bipush (v := 44) d_TrustDeskModel_readClause_180 (by decide) ?_
            refine tr_ialdR (o := o0) (k := 5) I170 q186 t_a187 (by decide) d_TrustDeskModel_readClause_182 (by unfold vp_in; decide) (fun v188 e189 => ?_)
            have := R172.a (k := 5) rfl (44 : Int32).toNatClampNeg
            have : v188.toInt = ra M166 o0 5 44 := e189
            refine tr_iastR (k := 12) I170 R172 (I170.up h_o0) q184 t_a185 (by decide) (by decide) (fun lo hi h => by cases h; have := R172.1 15 _ _ rfl; have := R172.1 16 _ _ rfl; have := R172.1 19 _ _ rfl; have := E175.f yS; exact ⟨by show (0 : Int) ≤ v188.toInt; omega, by show v188.toInt ≤ (400 : Int); omega⟩) (Or.inl (by decide)) d_TrustDeskModel_readClause_183 (vp_in_iff.mpr (by have := R172.1 15 _ _ rfl; have := R172.1 16 _ _ rfl; have := R172.1 19 _ _ rfl; have := E175.f yS; omega)) (fun M190 I191 K192 R193 E194 A195 V196 => ?_)
            have := V196 15
            have := V196 16
            have := V196 17
            have := V196 19
            have := V196 22
            have := V196 24
            have := A195 5 (by decide) rfl 44
            have := A195 6 (by decide) rfl 44
            have E197 : rE M0 M190 o0 0 4 := E175.same (fun k _ _ => V196 k) (fun k h1 h2 => A195 k (by omega) (by rcases (show k = 4 ∨ k = 5 by omega) with rfl | rfl <;> rfl))
            have := A195 7 (by decide) rfl ((880 + ra M0 o0 6 44).toNat)
            have := A195 10 (by decide) rfl ((880 + ra M0 o0 6 44).toNat)
            have := A195 8 (by decide) rfl ((880 + ra M0 o0 6 44).toNat)
            have h198 : (880 + ra M0 o0 6 44).toNat = v79.toNatClampNeg := by have := mz_nat9 (i := v79) (by have := R172.1 15 _ _ rfl; have := R172.1 16 _ _ rfl; have := R172.1 19 _ _ rfl; have := E175.f yS; omega); have := R172.1 15 _ _ rfl; have := R172.1 16 _ _ rfl; have := R172.1 19 _ _ rfl; have := E175.f yS; omega
            have : ra M190 o0 12 ((880 + ra M0 o0 6 44).toNat) = v188.toInt := (E194 _).trans (if_pos h198)
            have K199 : rK M0 M190 o0 ((880 + ra M0 o0 6 44).toNat) := K176.st A195 E194 (by have := mz_nat9 (i := v79) (by have := R172.1 15 _ _ rfl; have := R172.1 16 _ _ rfl; have := R172.1 19 _ _ rfl; have := E175.f yS; omega); have := R172.1 15 _ _ rfl; have := R172.1 16 _ _ rfl; have := R172.1 19 _ _ rfl; have := E175.f yS; omega)
            have K200 : nN M190 o0 := K177.same (sA_a A195 (by decide)) (sF_a V196)
            exact mv_vret d_TrustDeskModel_readClause_184 rfl ⟨_, I191, rfl, R193, (rW.of E197.1 (fun w9 => (by have := R193.1 15 _ _ rfl; have := R193.1 16 _ _ rfl; have := R193.1 19 _ _ rfl; have := E197.f yS; omega)) (fun w9 => rG.step yG yR E197 w9 K199 (by have := yR.2 6 _ _ rfl 44; omega) (by have := R193.1 15 _ _ rfl; have := R193.1 16 _ _ rfl; have := R193.1 19 _ _ rfl; have := E197.f yS; omega) (by have := R193.1 15 _ _ rfl; have := R193.1 16 _ _ rfl; have := R193.1 19 _ _ rfl; have := E197.f yS; omega) (fun h9 => by exfalso; have := R193.1 15 _ _ rfl; have := R193.1 16 _ _ rfl; have := R193.1 19 _ _ rfl; have := E197.f yS; omega) (fun h9 => (by have := R193.1 15 _ _ rfl; have := R193.1 16 _ _ rfl; have := R193.1 19 _ _ rfl; have := E197.f yS; omega)) (by have := R193.1 15 _ _ rfl; have := R193.1 16 _ _ rfl; have := R193.1 19 _ _ rfl; have := E197.f yS; omega) K200)), (rO.of E197 K199 (by have := yR.2 6 _ _ rfl 44; omega)), (by have := R193.1 15 _ _ rfl; have := R193.1 16 _ _ rfl; have := R193.1 19 _ _ rfl; have := E197.f yS; omega), (by have := R193.1 15 _ _ rfl; have := R193.1 16 _ _ rfl; have := R193.1 19 _ _ rfl; have := E197.f yS; omega), (fun h9 _ => absurd h9 (f16 (by have := R193.1 15 _ _ rfl; have := R193.1 16 _ _ rfl; have := R193.1 19 _ _ rfl; have := E197.f yS; omega)))⟩
          · refine mv_bipush (v := 7) d_TrustDeskModel_readClause_100 (by decide) ?_
            refine mv_goto (tgt := 107) d_TrustDeskModel_readClause_102 (by decide) ?_
            obtain ⟨_, b207, -⟩ := I56.1 _ _ t63
            have : (7 : Int32).toInt = 7 := by decide
            refine mv_callV (kc' := 0) (ks' := 0) (As := [.int 7]) (st9 := [.int 7, .ref o0]) d_TrustDeskModel_readClause_107 lV_TrustDeskModel_342 b207 rfl (tc_TrustDeskModel_begin_x (d := (d + 23)) (x9 := x9) (o0 := o0) (x1 := 7) t63 R61 E64.1 (by have := R61.1 15 _ _ rfl; have := R61.1 16 _ _ rfl; have := R61.1 19 _ _ rfl; have := E64.f yS; omega) (by have := R61.1 15 _ _ rfl; have := R61.1 16 _ _ rfl; have := R61.1 19 _ _ rfl; have := E64.f yS; omega) (by have := R61.1 15 _ _ rfl; have := R61.1 16 _ _ rfl; have := R61.1 19 _ _ rfl; have := E64.f yS; omega) (by have := R61.1 15 _ _ rfl; have := R61.1 16 _ _ rfl; have := R61.1 19 _ _ rfl; have := E64.f yS; omega) I56.start) rfl (Nat.le_of_ble_eq_true rfl) (Nat.le_of_ble_eq_true rfl) (Nat.le_of_ble_eq_true rfl) (hst := rfl) (fun b201r M202 n203 b201 => ?_)
            obtain ⟨T204, J205, v208, rfl, R209, f210, f211, f212, f213, f214, f215⟩ := b201
            have I206 := I56.call J205 (tm_sub (by decide)) (Or.inl rfl)
            have t216 := J205.up t63
            have := (rv_c I56 J205 (I56.up h_o0) (k := 19) rfl)
            have := (rv_c I56 J205 (I56.up h_o0) (k := 22) rfl)
            have := (rv_c I56 J205 (I56.up h_o0) (k := 24) rfl)
            have := ra_call I56 J205 (I56.up h_o0) (k := 5) rfl rfl rfl 44
            have E217 : rE M0 M202 o0 0 1 := E64.trans f210 (by decide) (yR.2 5 _ _ rfl 44).1 (by decide) (by decide)
            have := f210.w
            have := f210.w2
            have h218 : (880 + ra M52 o0 6 44).toNat = (880 + ra M0 o0 6 44).toNat := by omega
            rw [h218] at f213 f214 f215
            have K219 : rK M0 M202 o0 ((880 + ra M0 o0 6 44).toNat) := K65.trans f215
            have K220 : nN M202 o0 := K66.same (sA_c I56 J205 (I56.up h_o0) (by decide)) (sF_c I56 J205 (I56.up h_o0) (by decide))
            have q221 := J205.keep t63 (by decide) q67
            have t222 := J205.up t68
            have q223 := J205.keep t63 (by decide) q69
            refine mv_istore_n (lv' := [(3, .int v208), (2, .int v58), (1, .int v10), (0, .ref o0)]) d_TrustDeskModel_readClause_110 rfl (by decide) rfl ?_
            refine mv_iload_n d_TrustDeskModel_readClause_111 rfl rfl ?_
            have := mz_hi v10
            refine mv_if_eqZ (tgt := 123) (a := v10.toInt) d_TrustDeskModel_readClause_112 (by decide) rfl (fun b224 => ?_) (fun b224 => absurd b224 (by omega))
            refine mv_iload_n d_TrustDeskModel_readClause_123 rfl rfl ?_
            have := mz_hi v58
            refine mv_if_eqZ (tgt := 135) (a := v58.toInt) d_TrustDeskModel_readClause_124 (by decide) rfl (fun b225 => ?_) (fun b225 => ?_)
            · refine mv_aload_n d_TrustDeskModel_readClause_135 rfl rfl ?_
              obtain ⟨a227, q226, t_a227⟩ := tm_atR I206 t216 (k := 8) rfl
              refine tr_getK q226 d_TrustDeskModel_readClause_136 f_TrustDeskModel_29_13 ?_
              refine mv_iload_n d_TrustDeskModel_readClause_139 rfl rfl ?_
              refine mv_aload_n d_TrustDeskModel_readClause_140 rfl rfl ?_
              refine mv_iconst (v := 1) d_TrustDeskModel_readClause_141 (by decide) ?_
              refine mv_bipush (v := 7) d_TrustDeskModel_readClause_142 (by decide) ?_
              obtain ⟨_, b234, -⟩ := I206.1 _ _ t216
              have : (1 : Int32).toInt = 1 := by decide
              have : (7 : Int32).toInt = 7 := by decide
              refine mv_callV (kc' := 0) (ks' := 0) (As := [.int 1, .int 7]) (st9 := [.int 7, .int 1, .ref o0, .int v208, .ref a227]) d_TrustDeskModel_readClause_144 lV_TrustDeskModel_317 b234 rfl (tc_TrustDeskModel_number_x (d := (d + 23)) (x9 := x9) (o0 := o0) (x1 := 1) (x2 := 7) t216 R209 E217.1 (by have := R209.1 15 _ _ rfl; have := R209.1 16 _ _ rfl; have := R209.1 19 _ _ rfl; have := E217.f yS; omega) I206.start) rfl (Nat.le_of_ble_eq_true rfl) (Nat.le_of_ble_eq_true rfl) (Nat.le_of_ble_eq_true rfl) (hst := rfl) (fun b228r M229 n230 b228 => ?_)
              obtain ⟨T231, J232, v235, rfl, R236, f237, f238⟩ := b228
              have I233 := I206.call J232 (tm_sub (by decide)) (Or.inl rfl)
              have t239 := J232.up t216
              have t240 := J232.up t_a227
              have := (rv_c I206 J232 (I206.up h_o0) (k := 22) rfl)
              have := (rv_c I206 J232 (I206.up h_o0) (k := 24) rfl)
              have := ra_call I206 J232 (I206.up h_o0) (k := 5) rfl rfl rfl 44
              have := ra_call I206 J232 (I206.up h_o0) (k := 6) rfl rfl rfl 44
              have E241 : rE M0 M229 o0 0 2 := E217.trans f237 (by decide) (yR.2 5 _ _ rfl 44).1 (by decide) (by decide)
              have := f237.w
              have := f237.w2
              have := ra_call I206 J232 (I206.up h_o0) (k := 7) rfl rfl rfl ((880 + ra M0 o0 6 44).toNat)
              have := ra_call I206 J232 (I206.up h_o0) (k := 10) rfl rfl rfl ((880 + ra M0 o0 6 44).toNat)
              have K242 : rK M0 M229 o0 ((880 + ra M0 o0 6 44).toNat) := K219.same (sA_c I206 J232 (I206.up h_o0) (by decide))
              have K243 : nN M229 o0 := K220.same (sA_c I206 J232 (I206.up h_o0) (by decide)) (sF_c I206 J232 (I206.up h_o0) (by decide))
              have q244 := J232.keep t216 (by decide) q221
              have t245 := J232.up t222
              have q246 := J232.keep t216 (by decide) q226
              refine tr_iastR (k := 8) I233 R236 (I233.up h_o0) q246 t240 (by decide) (by decide) (fun lo hi h => by cases h; have := R236.1 15 _ _ rfl; have := R236.1 16 _ _ rfl; have := R236.1 19 _ _ rfl; have := E241.f yS; exact ⟨by show ((-1) : Int) ≤ v235.toInt; omega, by show v235.toInt ≤ (720 : Int); omega⟩) (Or.inl (by decide)) d_TrustDeskModel_readClause_147 (vp_in_iff.mpr (by have := R236.1 15 _ _ rfl; have := R236.1 16 _ _ rfl; have := R236.1 19 _ _ rfl; have := E241.f yS; omega)) (fun M247 I248 K249 R250 E251 A252 V253 => ?_)
              have := V253 15
              have := V253 16
              have := V253 17
              have := V253 19
              have := V253 22
              have := V253 24
              have := A252 5 (by decide) rfl 44
              have := A252 6 (by decide) rfl 44
              have E254 : rE M0 M247 o0 0 2 := E241.same (fun k _ _ => V253 k) (fun k h1 h2 => A252 k (by omega) (by rcases (show k = 4 ∨ k = 5 by omega) with rfl | rfl <;> rfl))
              have := A252 7 (by decide) rfl ((880 + ra M0 o0 6 44).toNat)
              have := A252 10 (by decide) rfl ((880 + ra M0 o0 6 44).toNat)
              have h255 : (880 + ra M0 o0 6 44).toNat = v208.toNatClampNeg := by have := mz_nat9 (i := v208) (by have := R236.1 15 _ _ rfl; have := R236.1 16 _ _ rfl; have := R236.1 19 _ _ rfl; have := E241.f yS; omega); have := R236.1 15 _ _ rfl; have := R236.1 16 _ _ rfl; have := R236.1 19 _ _ rfl; have := E241.f yS; omega
              have : ra M247 o0 8 ((880 + ra M0 o0 6 44).toNat) = v235.toInt := (E251 _).trans (if_pos h255)
              have K256 : rK M0 M247 o0 ((880 + ra M0 o0 6 44).toNat) := K242.st A252 E251 (by have := mz_nat9 (i := v208) (by have := R236.1 15 _ _ rfl; have := R236.1 16 _ _ rfl; have := R236.1 19 _ _ rfl; have := E241.f yS; omega); have := R236.1 15 _ _ rfl; have := R236.1 16 _ _ rfl; have := R236.1 19 _ _ rfl; have := E241.f yS; omega)
              have K257 : nN M247 o0 := K243.same (sA_a A252 (by decide)) (sF_a V253)
              refine mv_aload_n d_TrustDeskModel_readClause_148 rfl rfl ?_
              obtain ⟨a259, q258, t_a259⟩ := tm_atR I248 t239 (k := 9) rfl
              refine tr_getK q258 d_TrustDeskModel_readClause_149 f_TrustDeskModel_32_13 ?_
              refine mv_iload_n d_TrustDeskModel_readClause_152 rfl rfl ?_
              refine mv_aload_n d_TrustDeskModel_readClause_153 rfl rfl ?_
              refine mv_iconst (v := 1) d_TrustDeskModel_readClause_154 (by decide) ?_
              refine mv_aload_n d_TrustDeskModel_readClause_155 rfl rfl ?_
              refine tr_getK (k := 8) (K249 _ 13 8 _ q246) d_TrustDeskModel_readClause_156 f_TrustDeskModel_29_13 ?_
              refine mv_iload_n d_TrustDeskModel_readClause_159 rfl rfl ?_
              refine tr_ialdR (o := o0) (k := 8) I248 (K249 _ 13 8 _ q246) t240 (by decide) d_TrustDeskModel_readClause_160 (vp_in_iff.mpr (by have := R250.1 15 _ _ rfl; have := R250.1 16 _ _ rfl; have := R250.1 19 _ _ rfl; have := E254.f yS; omega)) (fun v260 e261 => ?_)
              have := R250.a (k := 8) rfl (v208 : Int32).toNatClampNeg
              have h262 : (880 + ra M0 o0 6 44).toNat = v208.toNatClampNeg := by have := mz_nat9 (i := v208) (by have := R250.1 15 _ _ rfl; have := R250.1 16 _ _ rfl; have := R250.1 19 _ _ rfl; have := E254.f yS; omega); have := R250.1 15 _ _ rfl; have := R250.1 16 _ _ rfl; have := R250.1 19 _ _ rfl; have := E254.f yS; omega
              have : v260.toInt = ra M247 o0 8 ((880 + ra M0 o0 6 44).toNat) := by rw [e261, h262]
              obtain ⟨_, b269, -⟩ := I248.1 _ _ t239
              have : (1 : Int32).toInt = 1 := by decide
              refine mv_callV (kc' := 0) (ks' := 0) (As := [.int 1, .int v260]) (st9 := [.int v260, .int 1, .ref o0, .int v208, .ref a259]) d_TrustDeskModel_readClause_161 lV_TrustDeskModel_317 b269 rfl (tc_TrustDeskModel_number_x (d := (d + 23)) (x9 := x9) (o0 := o0) (x1 := 1) (x2 := v260) t239 R250 E254.1 (by have := R250.1 15 _ _ rfl; have := R250.1 16 _ _ rfl; have := R250.1 19 _ _ rfl; have := E254.f yS; omega) I248.start) rfl (Nat.le_of_ble_eq_true rfl) (Nat.le_of_ble_eq_true rfl) (Nat.le_of_ble_eq_true rfl) (hst := rfl) (fun b263r M264 n265 b263 => ?_)
              obtain ⟨T266, J267, v270, rfl, R271, f272, f273⟩ := b263
              have I268 := I248.call J267 (tm_sub (by decide)) (Or.inl rfl)
              have t274 := J267.up t239
              have t275 := J267.up t_a259
              have := (rv_c I248 J267 (I248.up h_o0) (k := 22) rfl)
              have := (rv_c I248 J267 (I248.up h_o0) (k := 24) rfl)
              have := ra_call I248 J267 (I248.up h_o0) (k := 5) rfl rfl rfl 44
              have := ra_call I248 J267 (I248.up h_o0) (k := 6) rfl rfl rfl 44
              have E276 : rE M0 M264 o0 0 3 := E254.trans f272 (by decide) (yR.2 5 _ _ rfl 44).1 (by decide) (by decide)
              have := f272.w
              have := f272.w2
              have := ra_call I248 J267 (I248.up h_o0) (k := 7) rfl rfl rfl ((880 + ra M0 o0 6 44).toNat)
              have := ra_call I248 J267 (I248.up h_o0) (k := 10) rfl rfl rfl ((880 + ra M0 o0 6 44).toNat)
              have := ra_call I248 J267 (I248.up h_o0) (k := 8) rfl rfl rfl ((880 + ra M0 o0 6 44).toNat)
              have K277 : rK M0 M264 o0 ((880 + ra M0 o0 6 44).toNat) := K256.same (sA_c I248 J267 (I248.up h_o0) (by decide))
              have K278 : nN M264 o0 := K257.same (sA_c I248 J267 (I248.up h_o0) (by decide)) (sF_c I248 J267 (I248.up h_o0) (by decide))
              have q279 := J267.keep t239 (by decide) (K249 _ 13 6 _ q244)
              have t280 := J267.up t245
              have q281 := J267.keep t239 (by decide) (K249 _ 13 8 _ q246)
              have t282 := J267.up t240
              have q283 := J267.keep t239 (by decide) q258
              refine tr_iastR (k := 9) I268 R271 (I268.up h_o0) q283 t275 (by decide) (by decide) (fun lo hi h => by cases h) (Or.inl (by decide)) d_TrustDeskModel_readClause_164 (vp_in_iff.mpr (by have := R271.1 15 _ _ rfl; have := R271.1 16 _ _ rfl; have := R271.1 19 _ _ rfl; have := E276.f yS; omega)) (fun M284 I285 K286 R287 E288 A289 V290 => ?_)
              have := V290 15
              have := V290 16
              have := V290 17
              have := V290 19
              have := V290 22
              have := V290 24
              have := A289 5 (by decide) rfl 44
              have := A289 6 (by decide) rfl 44
              have E291 : rE M0 M284 o0 0 3 := E276.same (fun k _ _ => V290 k) (fun k h1 h2 => A289 k (by omega) (by rcases (show k = 4 ∨ k = 5 by omega) with rfl | rfl <;> rfl))
              have := A289 7 (by decide) rfl ((880 + ra M0 o0 6 44).toNat)
              have := A289 10 (by decide) rfl ((880 + ra M0 o0 6 44).toNat)
              have := A289 8 (by decide) rfl ((880 + ra M0 o0 6 44).toNat)
              have K292 : rK M0 M284 o0 ((880 + ra M0 o0 6 44).toNat) := K277.same (sA_a A289 (by decide))
              have K293 : nN M284 o0 := K278.same (sA_a A289 (by decide)) (sF_a V290)
              refine mv_aload_n d_TrustDeskModel_readClause_165 rfl rfl ?_
              refine mv_bipush (v := 59) d_TrustDeskModel_readClause_166 (by decide) ?_
              obtain ⟨_, b300, -⟩ := I285.1 _ _ t274
              have : (59 : Int32).toInt = 59 := by decide
              refine mv_callV (kc' := 0) (ks' := 0) (As := [.int 59]) (st9 := [.int 59, .ref o0]) d_TrustDeskModel_readClause_168 lV_TrustDeskModel_291 b300 rfl (tc_TrustDeskModel_wantSign_x (d := (d + 23)) (x9 := x9) (o0 := o0) (x1 := 59) t274 R287 E291.1 (by have := R287.1 15 _ _ rfl; have := R287.1 16 _ _ rfl; have := R287.1 19 _ _ rfl; have := E291.f yS; omega) I285.start) rfl (Nat.le_of_ble_eq_true rfl) (Nat.le_of_ble_eq_true rfl) (Nat.le_of_ble_eq_true rfl) (hst := rfl) (fun b294r M295 n296 b294 => ?_)
              obtain ⟨T297, J298, rfl, R301, f302⟩ := b294
              have I299 := I285.call J298 (tm_sub (by decide)) (Or.inl rfl)
              have t303 := J298.up t274
              have := (rv_c I285 J298 (I285.up h_o0) (k := 22) rfl)
              have := (rv_c I285 J298 (I285.up h_o0) (k := 24) rfl)
              have := ra_call I285 J298 (I285.up h_o0) (k := 5) rfl rfl rfl 44
              have := ra_call I285 J298 (I285.up h_o0) (k := 6) rfl rfl rfl 44
              have E304 : rE M0 M295 o0 0 4 := E291.trans f302 (by decide) (yR.2 5 _ _ rfl 44).1 (by decide) (by decide)
              have := f302.w
              have := f302.w2
              have := ra_call I285 J298 (I285.up h_o0) (k := 7) rfl rfl rfl ((880 + ra M0 o0 6 44).toNat)
              have := ra_call I285 J298 (I285.up h_o0) (k := 10) rfl rfl rfl ((880 + ra M0 o0 6 44).toNat)
              have := ra_call I285 J298 (I285.up h_o0) (k := 8) rfl rfl rfl ((880 + ra M0 o0 6 44).toNat)
              have K305 : rK M0 M295 o0 ((880 + ra M0 o0 6 44).toNat) := K292.same (sA_c I285 J298 (I285.up h_o0) (by decide))
              have K306 : nN M295 o0 := K293.same (sA_c I285 J298 (I285.up h_o0) (by decide)) (sF_c I285 J298 (I285.up h_o0) (by decide))
              have q307 := J298.keep t274 (by decide) (K286 _ 13 6 _ q279)
              have t308 := J298.up t280
              have q309 := J298.keep t274 (by decide) (K286 _ 13 8 _ q281)
              have t310 := J298.up t282
              have q311 := J298.keep t274 (by decide) (K286 _ 13 9 _ q283)
              have t312 := J298.up t275
              refine mv_aload_n d_TrustDeskModel_readClause_171 rfl rfl ?_
              obtain ⟨a314, q313, t_a314⟩ := tm_atR I299 t303 (k := 12) rfl
              refine tr_getK q313 d_TrustDeskModel_readClause_172 f_TrustDeskModel_41_13 ?_
              refine mv_iload_n d_TrustDeskModel_readClause_175 rfl rfl ?_
              refine mv_aload_n d_TrustDeskModel_readClause_176 rfl rfl ?_
              obtain ⟨a316, q315, t_a316⟩ := tm_atR I299 t303 (k := 5) rfl
              refine tr_getK q315 d_TrustDeskModel_readClause_177 f_TrustDeskModel_20_13 ?_
              refine mv_bipush (v := 44) d_TrustDeskModel_readClause_180 (by decide) ?_
              refine tr_ialdR (o := o0) (k := 5) I299 q315 t_a316 (by decide) d_TrustDeskModel_readClause_182 (by unfold vp_in; decide) (fun v317 e318 => ?_)
              have := R301.a (k := 5) rfl (44 : Int32).toNatClampNeg
              have : v317.toInt = ra M295 o0 5 44 := e318
              refine tr_iastR (k := 12) I299 R301 (I299.up h_o0) q313 t_a314 (by decide) (by decide) (fun lo hi h => by cases h; have := R301.1 15 _ _ rfl; have := R301.1 16 _ _ rfl; have := R301.1 19 _ _ rfl; have := E304.f yS; exact ⟨by show (0 : Int) ≤ v317.toInt; omega, by show v317.toInt ≤ (400 : Int); omega⟩) (Or.inl (by decide)) d_TrustDeskModel_readClause_183 (vp_in_iff.mpr (by have := R301.1 15 _ _ rfl; have := R301.1 16 _ _ rfl; have := R301.1 19 _ _ rfl; have := E304.f yS; omega)) (fun M319 I320 K321 R322 E323 A324 V325 => ?_)
              have := V325 15
              have := V325 16
              have := V325 17
              have := V325 19
              have := V325 22
              have := V325 24
              have := A324 5 (by decide) rfl 44
              have := A324 6 (by decide) rfl 44
              have E326 : rE M0 M319 o0 0 4 := E304.same (fun k _ _ => V325 k) (fun k h1 h2 => A324 k (by omega) (by rcases (show k = 4 ∨ k = 5 by omega) with rfl | rfl <;> rfl))
              have := A324 7 (by decide) rfl ((880 + ra M0 o0 6 44).toNat)
              have := A324 10 (by decide) rfl ((880 + ra M0 o0 6 44).toNat)
              have := A324 8 (by decide) rfl ((880 + ra M0 o0 6 44).toNat)
              have h327 : (880 + ra M0 o0 6 44).toNat = v208.toNatClampNeg := by have := mz_nat9 (i := v208) (by have := R301.1 15 _ _ rfl; have := R301.1 16 _ _ rfl; have := R301.1 19 _ _ rfl; have := E304.f yS; omega); have := R301.1 15 _ _ rfl; have := R301.1 16 _ _ rfl; have := R301.1 19 _ _ rfl; have := E304.f yS; omega
              have : ra M319 o0 12 ((880 + ra M0 o0 6 44).toNat) = v317.toInt := (E323 _).trans (if_pos h327)
              have K328 : rK M0 M319 o0 ((880 + ra M0 o0 6 44).toNat) := K305.st A324 E323 (by have := mz_nat9 (i := v208) (by have := R301.1 15 _ _ rfl; have := R301.1 16 _ _ rfl; have := R301.1 19 _ _ rfl; have := E304.f yS; omega); have := R301.1 15 _ _ rfl; have := R301.1 16 _ _ rfl; have := R301.1 19 _ _ rfl; have := E304.f yS; omega)
              have K329 : nN M319 o0 := K306.same (sA_a A324 (by decide)) (sF_a V325)
              exact mv_vret d_TrustDeskModel_readClause_184 rfl ⟨_, I320, rfl, R322, (rW.of E326.1 (fun w9 => (by have := R322.1 15 _ _ rfl; have := R322.1 16 _ _ rfl; have := R322.1 19 _ _ rfl; have := E326.f yS; omega)) (fun w9 => rG.step yG yR E326 w9 K328 (by have := yR.2 6 _ _ rfl 44; omega) (by have := R322.1 15 _ _ rfl; have := R322.1 16 _ _ rfl; have := R322.1 19 _ _ rfl; have := E326.f yS; omega) (by have := R322.1 15 _ _ rfl; have := R322.1 16 _ _ rfl; have := R322.1 19 _ _ rfl; have := E326.f yS; omega) (fun h9 => by exfalso; have := R322.1 15 _ _ rfl; have := R322.1 16 _ _ rfl; have := R322.1 19 _ _ rfl; have := E326.f yS; omega) (fun h9 => (by have := R322.1 15 _ _ rfl; have := R322.1 16 _ _ rfl; have := R322.1 19 _ _ rfl; have := E326.f yS; omega)) (by have := R322.1 15 _ _ rfl; have := R322.1 16 _ _ rfl; have := R322.1 19 _ _ rfl; have := E326.f yS; omega) K329)), (rO.of E326 K328 (by have := yR.2 6 _ _ rfl 44; omega)), (by have := R322.1 15 _ _ rfl; have := R322.1 16 _ _ rfl; have := R322.1 19 _ _ rfl; have := E326.f yS; omega), (by have := R322.1 15 _ _ rfl; have := R322.1 16 _ _ rfl; have := R322.1 19 _ _ rfl; have := E326.f yS; omega), (fun h9 _ => absurd h9 (f16 (by have := R322.1 15 _ _ rfl; have := R322.1 16 _ _ rfl; have := R322.1 19 _ _ rfl; have := E326.f yS; omega)))⟩
            · refine mv_aload_n d_TrustDeskModel_readClause_127 rfl rfl ?_
              refine mv_iload_n d_TrustDeskModel_readClause_128 rfl rfl ?_
              obtain ⟨_, b336, -⟩ := I206.1 _ _ t216
              refine mv_callV (kc' := 0) (ks' := 0) (As := [.int v208]) (st9 := [.int v208, .ref o0]) d_TrustDeskModel_readClause_129 lV_TrustDeskModel_348 b336 rfl (tc_TrustDeskModel_readMarks_x (d := (d + 22)) (x9 := x9) (o0 := o0) (x1 := v208) t216 R209 E217.1 (by have := R209.1 15 _ _ rfl; have := R209.1 16 _ _ rfl; have := R209.1 19 _ _ rfl; have := E217.f yS; omega) (by have := R209.1 15 _ _ rfl; have := R209.1 16 _ _ rfl; have := R209.1 19 _ _ rfl; have := E217.f yS; omega) I206.start) rfl (Nat.le_of_ble_eq_true rfl) (Nat.le_of_ble_eq_true rfl) (Nat.le_of_ble_eq_true rfl) (hst := rfl) (fun b330r M331 n332 b330 => ?_)
              obtain ⟨T333, J334, rfl, R337, f338, f339, f340⟩ := b330
              have I335 := I206.call J334 (tm_sub (by decide)) (Or.inl rfl)
              have t341 := J334.up t216
              have := (rv_c I206 J334 (I206.up h_o0) (k := 22) rfl)
              have := (rv_c I206 J334 (I206.up h_o0) (k := 24) rfl)
              have := ra_call I206 J334 (I206.up h_o0) (k := 5) rfl rfl rfl 44
              have := ra_call I206 J334 (I206.up h_o0) (k := 6) rfl rfl rfl 44
              have E342 : rE M0 M331 o0 0 1 := E217.trans f338 (by decide) (yR.2 5 _ _ rfl 44).1 (by decide) (by decide)
              have := f338.w
              have := f338.w2
              have := ra_call I206 J334 (I206.up h_o0) (k := 7) rfl rfl rfl ((880 + ra M0 o0 6 44).toNat)
              have := ra_call I206 J334 (I206.up h_o0) (k := 10) rfl rfl rfl ((880 + ra M0 o0 6 44).toNat)
              have h343 : v208.toNatClampNeg = (880 + ra M0 o0 6 44).toNat := by have := mz_nat9 (i := v208) (by have := R209.1 15 _ _ rfl; have := R209.1 16 _ _ rfl; have := R209.1 19 _ _ rfl; have := E217.f yS; omega); have := R209.1 15 _ _ rfl; have := R209.1 16 _ _ rfl; have := R209.1 19 _ _ rfl; have := E217.f yS; omega
              rw [h343] at f339 f340
              have K344 : rK M0 M331 o0 ((880 + ra M0 o0 6 44).toNat) := K219.one8 (sA_c I206 J334 (I206.up h_o0) (by decide)) f339
              have K345 : nN M331 o0 := K220.same (sA_c I206 J334 (I206.up h_o0) (by decide)) (sF_c I206 J334 (I206.up h_o0) (by decide))
              have q346 := J334.keep t216 (by decide) q221
              have t347 := J334.up t222
              refine mv_goto (tgt := 165) d_TrustDeskModel_readClause_132 (by decide) ?_
              refine mv_aload_n d_TrustDeskModel_readClause_165 rfl rfl ?_
              refine mv_bipush (v := 59) d_TrustDeskModel_readClause_166 (by decide) ?_
              obtain ⟨_, b354, -⟩ := I335.1 _ _ t341
              have : (59 : Int32).toInt = 59 := by decide
              refine mv_callV (kc' := 0) (ks' := 0) (As := [.int 59]) (st9 := [.int 59, .ref o0]) d_TrustDeskModel_readClause_168 lV_TrustDeskModel_291 b354 rfl (tc_TrustDeskModel_wantSign_x (d := (d + 23)) (x9 := x9) (o0 := o0) (x1 := 59) t341 R337 E342.1 (by have := R337.1 15 _ _ rfl; have := R337.1 16 _ _ rfl; have := R337.1 19 _ _ rfl; have := E342.f yS; omega) I335.start) rfl (Nat.le_of_ble_eq_true rfl) (Nat.le_of_ble_eq_true rfl) (Nat.le_of_ble_eq_true rfl) (hst := rfl) (fun b348r M349 n350 b348 => ?_)
              obtain ⟨T351, J352, rfl, R355, f356⟩ := b348
              have I353 := I335.call J352 (tm_sub (by decide)) (Or.inl rfl)
              have t357 := J352.up t341
              have := (rv_c I335 J352 (I335.up h_o0) (k := 22) rfl)
              have := (rv_c I335 J352 (I335.up h_o0) (k := 24) rfl)
              have := ra_call I335 J352 (I335.up h_o0) (k := 5) rfl rfl rfl 44
              have := ra_call I335 J352 (I335.up h_o0) (k := 6) rfl rfl rfl 44
              have E358 : rE M0 M349 o0 0 2 := E342.trans f356 (by decide) (yR.2 5 _ _ rfl 44).1 (by decide) (by decide)
              have := f356.w
              have := f356.w2
              have := ra_call I335 J352 (I335.up h_o0) (k := 7) rfl rfl rfl ((880 + ra M0 o0 6 44).toNat)
              have := ra_call I335 J352 (I335.up h_o0) (k := 10) rfl rfl rfl ((880 + ra M0 o0 6 44).toNat)
              have := ra_call I335 J352 (I335.up h_o0) (k := 8) rfl rfl rfl ((880 + ra M0 o0 6 44).toNat)
              have K359 : rK M0 M349 o0 ((880 + ra M0 o0 6 44).toNat) := K344.same (sA_c I335 J352 (I335.up h_o0) (by decide))
              have K360 : nN M349 o0 := K345.same (sA_c I335 J352 (I335.up h_o0) (by decide)) (sF_c I335 J352 (I335.up h_o0) (by decide))
              have q361 := J352.keep t341 (by decide) q346
              have t362 := J352.up t347
              refine mv_aload_n d_TrustDeskModel_readClause_171 rfl rfl ?_
              obtain ⟨a364, q363, t_a364⟩ := tm_atR I353 t357 (k := 12) rfl
              refine tr_getK q363 d_TrustDeskModel_readClause_172 f_TrustDeskModel_41_13 ?_
              refine mv_iload_n d_TrustDeskModel_readClause_175 rfl rfl ?_
              refine mv_aload_n d_TrustDeskModel_readClause_176 rfl rfl ?_
              obtain ⟨a366, q365, t_a366⟩ := tm_atR I353 t357 (k := 5) rfl
              refine tr_getK q365 d_TrustDeskModel_readClause_177 f_TrustDeskModel_20_13 ?_
              refine mv_bipush (v := 44) d_TrustDeskModel_readClause_180 (by decide) ?_
              refine tr_ialdR (o := o0) (k := 5) I353 q365 t_a366 (by decide) d_TrustDeskModel_readClause_182 (by unfold vp_in; decide) (fun v367 e368 => ?_)
              have := R355.a (k := 5) rfl (44 : Int32).toNatClampNeg
              have : v367.toInt = ra M349 o0 5 44 := e368
              refine tr_iastR (k := 12) I353 R355 (I353.up h_o0) q363 t_a364 (by decide) (by decide) (fun lo hi h => by cases h; have := R355.1 15 _ _ rfl; have := R355.1 16 _ _ rfl; have := R355.1 19 _ _ rfl; have := E358.f yS; exact ⟨by show (0 : Int) ≤ v367.toInt; omega, by show v367.toInt ≤ (400 : Int); omega⟩) (Or.inl (by decide)) d_TrustDeskModel_readClause_183 (vp_in_iff.mpr (by have := R355.1 15 _ _ rfl; have := R355.1 16 _ _ rfl; have := R355.1 19 _ _ rfl; have := E358.f yS; omega)) (fun M369 I370 K371 R372 E373 A374 V375 => ?_)
              have := V375 15
              have := V375 16
              have := V375 17
              have := V375 19
              have := V375 22
              have := V375 24
              have := A374 5 (by decide) rfl 44
              have := A374 6 (by decide) rfl 44
              have E376 : rE M0 M369 o0 0 2 := E358.same (fun k _ _ => V375 k) (fun k h1 h2 => A374 k (by omega) (by rcases (show k = 4 ∨ k = 5 by omega) with rfl | rfl <;> rfl))
              have := A374 7 (by decide) rfl ((880 + ra M0 o0 6 44).toNat)
              have := A374 10 (by decide) rfl ((880 + ra M0 o0 6 44).toNat)
              have := A374 8 (by decide) rfl ((880 + ra M0 o0 6 44).toNat)
              have h377 : (880 + ra M0 o0 6 44).toNat = v208.toNatClampNeg := by have := mz_nat9 (i := v208) (by have := R355.1 15 _ _ rfl; have := R355.1 16 _ _ rfl; have := R355.1 19 _ _ rfl; have := E358.f yS; omega); have := R355.1 15 _ _ rfl; have := R355.1 16 _ _ rfl; have := R355.1 19 _ _ rfl; have := E358.f yS; omega
              have : ra M369 o0 12 ((880 + ra M0 o0 6 44).toNat) = v367.toInt := (E373 _).trans (if_pos h377)
              have K378 : rK M0 M369 o0 ((880 + ra M0 o0 6 44).toNat) := K359.st A374 E373 (by have := mz_nat9 (i := v208) (by have := R355.1 15 _ _ rfl; have := R355.1 16 _ _ rfl; have := R355.1 19 _ _ rfl; have := E358.f yS; omega); have := R355.1 15 _ _ rfl; have := R355.1 16 _ _ rfl; have := R355.1 19 _ _ rfl; have := E358.f yS; omega)
              have K379 : nN M369 o0 := K360.same (sA_a A374 (by decide)) (sF_a V375)
              exact mv_vret d_TrustDeskModel_readClause_184 rfl ⟨_, I370, rfl, R372, (rW.of E376.1 (fun w9 => (by have := R372.1 15 _ _ rfl; have := R372.1 16 _ _ rfl; have := R372.1 19 _ _ rfl; have := E376.f yS; omega)) (fun w9 => rG.step yG yR E376 w9 K378 (by have := yR.2 6 _ _ rfl 44; omega) (by have := R372.1 15 _ _ rfl; have := R372.1 16 _ _ rfl; have := R372.1 19 _ _ rfl; have := E376.f yS; omega) (by have := R372.1 15 _ _ rfl; have := R372.1 16 _ _ rfl; have := R372.1 19 _ _ rfl; have := E376.f yS; omega) (fun h9 => by exfalso; have := R372.1 15 _ _ rfl; have := R372.1 16 _ _ rfl; have := R372.1 19 _ _ rfl; have := E376.f yS; omega) (fun h9 => (by have := R372.1 15 _ _ rfl; have := R372.1 16 _ _ rfl; have := R372.1 19 _ _ rfl; have := E376.f yS; omega)) (by have := R372.1 15 _ _ rfl; have := R372.1 16 _ _ rfl; have := R372.1 19 _ _ rfl; have := E376.f yS; omega) K379)), (rO.of E376 K378 (by have := yR.2 6 _ _ rfl 44; omega)), (by have := R372.1 15 _ _ rfl; have := R372.1 16 _ _ rfl; have := R372.1 19 _ _ rfl; have := E376.f yS; omega), (by have := R372.1 15 _ _ rfl; have := R372.1 16 _ _ rfl; have := R372.1 19 _ _ rfl; have := E376.f yS; omega), (fun h9 _ => absurd h9 (f16 (by have := R372.1 15 _ _ rfl; have := R372.1 16 _ _ rfl; have := R372.1 19 _ _ rfl; have := E376.f yS; omega)))⟩
      · refine mv_aload_n d_TrustDeskModel_readClause_56 rfl rfl ?_
        obtain ⟨v381, q380⟩ := tm_atI I8 t17 (k := 24) rfl
        refine tr_getK q380 d_TrustDeskModel_readClause_57 f_TrustDeskModel_321_13 ?_
        have := R13.f (k := 24) q380 rfl
        have := tm_rv q380
        refine mv_bipush (v := 6) d_TrustDeskModel_readClause_60 (by decide) ?_
        have := mz_hi v381
        refine mv_icmp_neZ (tgt := 70) (a := v381.toInt) (b := 6) d_TrustDeskModel_readClause_62 (by decide) rfl (by decide) (fun b382 => ?_) (fun b382 => ?_)
        · refine mv_aload_n d_TrustDeskModel_readClause_70 rfl rfl ?_
          obtain ⟨_, b383, -⟩ := I8.1 _ _ t17
          refine mv_callV (kc1 := 0) (ks1 := 0) (kc' := 0) (ks' := 0) (As := []) (st9 := [.ref o0]) d_TrustDeskModel_readClause_71 lV_TrustDeskModel_230 b383 rfl (mj_enter (by decide) (Nat.le_of_ble_eq_true rfl) ?_) rfl (Nat.le_of_ble_eq_true rfl) (Nat.le_of_ble_eq_true rfl) (Nat.le_of_ble_eq_true rfl) (hst := rfl) (fun _ _ _ h => h)
          refine mv_aload_n d_TrustDeskModel_isWell_0 rfl rfl ?_
          obtain ⟨v385, q384⟩ := tm_atI I8 t17 (k := 19) rfl
          refine tr_getK q384 d_TrustDeskModel_isWell_1 f_TrustDeskModel_224_13 ?_
          have := R13.f (k := 19) q384 rfl
          have := tm_rv q384
          have := mz_hi v385
          refine mv_if_neZ (tgt := 11) (a := v385.toInt) d_TrustDeskModel_isWell_4 (by decide) rfl (fun b386 => ?_) (fun b386 => ?_)
          · refine mv_iconst (v := 0) d_TrustDeskModel_isWell_11 (by decide) ?_
            refine mv_iret d_TrustDeskModel_isWell_12 rfl (by decide) ?_
            refine mv_if_ne_f (tgt := 78) d_TrustDeskModel_readClause_74 (by decide) (by decide) ?_
            exact mv_vret d_TrustDeskModel_readClause_77 rfl ⟨_, I8, rfl, R13, (rW.of E18.1 (fun w9 => (by have := R13.1 15 _ _ rfl; have := R13.1 16 _ _ rfl; have := R13.1 19 _ _ rfl; have := E18.f yS; omega)) (fun w9 => rG.step yG yR E18 w9 K19 (by have := yR.2 6 _ _ rfl 44; omega) (by have := R13.1 15 _ _ rfl; have := R13.1 16 _ _ rfl; have := R13.1 19 _ _ rfl; have := E18.f yS; omega) (by have := R13.1 15 _ _ rfl; have := R13.1 16 _ _ rfl; have := R13.1 19 _ _ rfl; have := E18.f yS; omega) (fun h9 => by exfalso; have := R13.1 15 _ _ rfl; have := R13.1 16 _ _ rfl; have := R13.1 19 _ _ rfl; have := E18.f yS; omega) (fun h9 => (by have := R13.1 15 _ _ rfl; have := R13.1 16 _ _ rfl; have := R13.1 19 _ _ rfl; have := E18.f yS; omega)) (by have := R13.1 15 _ _ rfl; have := R13.1 16 _ _ rfl; have := R13.1 19 _ _ rfl; have := E18.f yS; omega) K20)), (rO.of E18 K19 (by have := yR.2 6 _ _ rfl 44; omega)), (by have := R13.1 15 _ _ rfl; have := R13.1 16 _ _ rfl; have := R13.1 19 _ _ rfl; have := E18.f yS; omega), (by have := R13.1 15 _ _ rfl; have := R13.1 16 _ _ rfl; have := R13.1 19 _ _ rfl; have := E18.f yS; omega), (fun h9 _ => absurd h9 (f16 (by have := R13.1 15 _ _ rfl; have := R13.1 16 _ _ rfl; have := R13.1 19 _ _ rfl; have := E18.f yS; omega)))⟩
          · refine mv_iconst (v := 1) d_TrustDeskModel_isWell_7 (by decide) ?_
            refine mv_goto (tgt := 12) d_TrustDeskModel_isWell_8 (by decide) ?_
            refine mv_iret d_TrustDeskModel_isWell_12 rfl (by decide) ?_
            refine mv_if_ne_t (tgt := 78) d_TrustDeskModel_readClause_74 (by decide) (by decide) ?_
            refine mv_aload_n d_TrustDeskModel_readClause_78 rfl rfl ?_
            refine mv_ldcSw (id := 43) (tx := "mark") d_TrustDeskModel_readClause_79 (List.mem_of_getElem? (i := 33) rfl) ?_
            obtain ⟨_, b393, -⟩ := I8.1 _ _ t17
            refine mv_callV (kc' := 0) (ks' := 0) (As := [.ref 43]) (st9 := [.ref 43, .ref o0]) d_TrustDeskModel_readClause_82 lV_TrustDeskModel_244 b393 rfl (tc_TrustDeskModel_isWord_s1_43_x (d := (d + 21)) (x9 := x9) (o0 := o0) t17 R13 I8.start) rfl (Nat.le_of_ble_eq_true rfl) (Nat.le_of_ble_eq_true rfl) (Nat.le_of_ble_eq_true rfl) (hst := rfl) (fun b387r M388 n389 b387 => ?_)
            obtain ⟨T390, J391, v394, rfl, b395, b396, R397, f398⟩ := b387
            have I392 := I8.call J391 (tm_sub (by decide)) (Or.inl rfl)
            have t399 := J391.up t17
            have := (rv_c I8 J391 (I8.up h_o0) (k := 15) rfl)
            have := (rv_c I8 J391 (I8.up h_o0) (k := 16) rfl)
            have := (rv_c I8 J391 (I8.up h_o0) (k := 17) rfl)
            have := (rv_c I8 J391 (I8.up h_o0) (k := 19) rfl)
            have := (rv_c I8 J391 (I8.up h_o0) (k := 22) rfl)
            have := (rv_c I8 J391 (I8.up h_o0) (k := 24) rfl)
            have := ra_call I8 J391 (I8.up h_o0) (k := 5) rfl rfl rfl 44
            have := ra_call I8 J391 (I8.up h_o0) (k := 6) rfl rfl rfl 44
            have E400 : rE M0 M388 o0 0 0 := E18.same (rE_hv I8 J391 (I8.up h_o0) 15 19 (by decide)) (rE_ha I8 J391 (I8.up h_o0) (by decide))
            have K401 : rK M0 M388 o0 ((880 + ra M0 o0 6 44).toNat) := K19.same (sA_c I8 J391 (I8.up h_o0) (by decide))
            have K402 : nN M388 o0 := K20.same (sA_c I8 J391 (I8.up h_o0) (by decide)) (sF_c I8 J391 (I8.up h_o0) (by decide))
            have q403 := J391.keep t17 (by decide) q22
            have t404 := J391.up t_a23
            have q405 := J391.keep t17 (by decide) q380
            have q406 := J391.keep t17 (by decide) q384
            refine mv_istore_n (lv' := [(2, .int v394), (1, .int v10), (0, .ref o0)]) d_TrustDeskModel_readClause_85 rfl (by decide) rfl ?_
            refine mv_aload_n d_TrustDeskModel_readClause_86 rfl rfl ?_
            refine mv_iload_n d_TrustDeskModel_readClause_87 rfl rfl ?_
            have := mz_hi v10
            refine mv_if_eqZ (tgt := 96) (a := v10.toInt) d_TrustDeskModel_readClause_88 (by decide) rfl (fun b407 => ?_) (fun b407 => ?_)
            · refine mv_iload_n d_TrustDeskModel_readClause_96 rfl rfl ?_
              have := mz_hi v394
              refine mv_if_eqZ (tgt := 105) (a := v394.toInt) d_TrustDeskModel_readClause_97 (by decide) rfl (fun b408 => ?_) (fun b408 => ?_)
              · refine mv_bipush (v := 9) d_TrustDeskModel_readClause_105 (by decide) ?_
                obtain ⟨_, b415, -⟩ := I392.1 _ _ t399
                have : (9 : Int32).toInt = 9 := by decide
                refine mv_callV (kc' := 0) (ks' := 0) (As := [.int 9]) (st9 := [.int 9, .ref o0]) d_TrustDeskModel_readClause_107 lV_TrustDeskModel_342 b415 rfl (tc_TrustDeskModel_begin_x (d := (d + 23)) (x9 := x9) (o0 := o0) (x1 := 9) t399 R397 E400.1 (by have := R397.1 15 _ _ rfl; have := R397.1 16 _ _ rfl; have := R397.1 19 _ _ rfl; have := E400.f yS; omega) (by have := R397.1 15 _ _ rfl; have := R397.1 16 _ _ rfl; have := R397.1 19 _ _ rfl; have := E400.f yS; omega) (by have := R397.1 15 _ _ rfl; have := R397.1 16 _ _ rfl; have := R397.1 19 _ _ rfl; have := E400.f yS; omega) (by have := R397.1 15 _ _ rfl; have := R397.1 16 _ _ rfl; have := R397.1 19 _ _ rfl; have := E400.f yS; omega) I392.start) rfl (Nat.le_of_ble_eq_true rfl) (Nat.le_of_ble_eq_true rfl) (Nat.le_of_ble_eq_true rfl) (hst := rfl) (fun b409r M410 n411 b409 => ?_)
                obtain ⟨T412, J413, v416, rfl, R417, f418, f419, f420, f421, f422, f423⟩ := b409
                have I414 := I392.call J413 (tm_sub (by decide)) (Or.inl rfl)
                have t424 := J413.up t399
                have := (rv_c I392 J413 (I392.up h_o0) (k := 19) rfl)
                have := (rv_c I392 J413 (I392.up h_o0) (k := 22) rfl)
                have := (rv_c I392 J413 (I392.up h_o0) (k := 24) rfl)
                have := ra_call I392 J413 (I392.up h_o0) (k := 5) rfl rfl rfl 44
                have E425 : rE M0 M410 o0 0 1 := E400.trans f418 (by decide) (yR.2 5 _ _ rfl 44).1 (by decide) (by decide)
                have := f418.w
                have := f418.w2
                have h426 : (880 + ra M388 o0 6 44).toNat = (880 + ra M0 o0 6 44).toNat := by omega
                rw [h426] at f421 f422 f423
                have K427 : rK M0 M410 o0 ((880 + ra M0 o0 6 44).toNat) := K401.trans f423
                have K428 : nN M410 o0 := K402.same (sA_c I392 J413 (I392.up h_o0) (by decide)) (sF_c I392 J413 (I392.up h_o0) (by decide))
                have q429 := J413.keep t399 (by decide) q403
                have t430 := J413.up t404
                have q431 := J413.keep t399 (by decide) q405
                have q432 := J413.keep t399 (by decide) q406
                refine mv_istore_n (lv' := [(3, .int v416), (2, .int v394), (1, .int v10), (0, .ref o0)]) d_TrustDeskModel_readClause_110 rfl (by decide) rfl ?_
                refine mv_iload_n d_TrustDeskModel_readClause_111 rfl rfl ?_
                have := mz_hi v10
                refine mv_if_eqZ (tgt := 123) (a := v10.toInt) d_TrustDeskModel_readClause_112 (by decide) rfl (fun b433 => ?_) (fun b433 => absurd b433 (by omega))
                refine mv_iload_n d_TrustDeskModel_readClause_123 rfl rfl ?_
                have := mz_hi v394
                refine mv_if_eqZ (tgt := 135) (a := v394.toInt) d_TrustDeskModel_readClause_124 (by decide) rfl (fun b434 => ?_) (fun b434 => absurd b434 (by omega))
                refine mv_aload_n d_TrustDeskModel_readClause_135 rfl rfl ?_
                obtain ⟨a436, q435, t_a436⟩ := tm_atR I414 t424 (k := 8) rfl
                refine tr_getK q435 d_TrustDeskModel_readClause_136 f_TrustDeskModel_29_13 ?_
                refine mv_iload_n d_TrustDeskModel_readClause_139 rfl rfl ?_
                refine mv_aload_n d_TrustDeskModel_readClause_140 rfl rfl ?_
                refine mv_iconst (v := 1) d_TrustDeskModel_readClause_141 (by decide) ?_
                refine mv_bipush (v := 7) d_TrustDeskModel_readClause_142 (by decide) ?_
                obtain ⟨_, b443, -⟩ := I414.1 _ _ t424
                have : (1 : Int32).toInt = 1 := by decide
                have : (7 : Int32).toInt = 7 := by decide
                refine mv_callV (kc' := 0) (ks' := 0) (As := [.int 1, .int 7]) (st9 := [.int 7, .int 1, .ref o0, .int v416, .ref a436]) d_TrustDeskModel_readClause_144 lV_TrustDeskModel_317 b443 rfl (tc_TrustDeskModel_number_x (d := (d + 23)) (x9 := x9) (o0 := o0) (x1 := 1) (x2 := 7) t424 R417 E425.1 (by have := R417.1 15 _ _ rfl; have := R417.1 16 _ _ rfl; have := R417.1 19 _ _ rfl; have := E425.f yS; omega) I414.start) rfl (Nat.le_of_ble_eq_true rfl) (Nat.le_of_ble_eq_true rfl) (Nat.le_of_ble_eq_true rfl) (hst := rfl) (fun b437r M438 n439 b437 => ?_)
                obtain ⟨T440, J441, v444, rfl, R445, f446, f447⟩ := b437
                have I442 := I414.call J441 (tm_sub (by decide)) (Or.inl rfl)
                have t448 := J441.up t424
                have t449 := J441.up t_a436
                have := (rv_c I414 J441 (I414.up h_o0) (k := 22) rfl)
                have := (rv_c I414 J441 (I414.up h_o0) (k := 24) rfl)
                have := ra_call I414 J441 (I414.up h_o0) (k := 5) rfl rfl rfl 44
                have := ra_call I414 J441 (I414.up h_o0) (k := 6) rfl rfl rfl 44
                have E450 : rE M0 M438 o0 0 2 := E425.trans f446 (by decide) (yR.2 5 _ _ rfl 44).1 (by decide) (by decide)
                have := f446.w
                have := f446.w2
                have := ra_call I414 J441 (I414.up h_o0) (k := 7) rfl rfl rfl ((880 + ra M0 o0 6 44).toNat)
                have := ra_call I414 J441 (I414.up h_o0) (k := 10) rfl rfl rfl ((880 + ra M0 o0 6 44).toNat)
                have K451 : rK M0 M438 o0 ((880 + ra M0 o0 6 44).toNat) := K427.same (sA_c I414 J441 (I414.up h_o0) (by decide))
                have K452 : nN M438 o0 := K428.same (sA_c I414 J441 (I414.up h_o0) (by decide)) (sF_c I414 J441 (I414.up h_o0) (by decide))
                have q453 := J441.keep t424 (by decide) q429
                have t454 := J441.up t430
                have q455 := J441.keep t424 (by decide) q431
                have q456 := J441.keep t424 (by decide) q435
                refine tr_iastR (k := 8) I442 R445 (I442.up h_o0) q456 t449 (by decide) (by decide) (fun lo hi h => by cases h; have := R445.1 15 _ _ rfl; have := R445.1 16 _ _ rfl; have := R445.1 19 _ _ rfl; have := E450.f yS; exact ⟨by show ((-1) : Int) ≤ v444.toInt; omega, by show v444.toInt ≤ (720 : Int); omega⟩) (Or.inl (by decide)) d_TrustDeskModel_readClause_147 (vp_in_iff.mpr (by have := R445.1 15 _ _ rfl; have := R445.1 16 _ _ rfl; have := R445.1 19 _ _ rfl; have := E450.f yS; omega)) (fun M457 I458 K459 R460 E461 A462 V463 => ?_)
                have := V463 15
                have := V463 16
                have := V463 17
                have := V463 19
                have := V463 22
                have := V463 24
                have := A462 5 (by decide) rfl 44
                have := A462 6 (by decide) rfl 44
                have E464 : rE M0 M457 o0 0 2 := E450.same (fun k _ _ => V463 k) (fun k h1 h2 => A462 k (by omega) (by rcases (show k = 4 ∨ k = 5 by omega) with rfl | rfl <;> rfl))
                have := A462 7 (by decide) rfl ((880 + ra M0 o0 6 44).toNat)
                have := A462 10 (by decide) rfl ((880 + ra M0 o0 6 44).toNat)
                have h465 : (880 + ra M0 o0 6 44).toNat = v416.toNatClampNeg := by have := mz_nat9 (i := v416) (by have := R445.1 15 _ _ rfl; have := R445.1 16 _ _ rfl; have := R445.1 19 _ _ rfl; have := E450.f yS; omega); have := R445.1 15 _ _ rfl; have := R445.1 16 _ _ rfl; have := R445.1 19 _ _ rfl; have := E450.f yS; omega
                have : ra M457 o0 8 ((880 + ra M0 o0 6 44).toNat) = v444.toInt := (E461 _).trans (if_pos h465)
                have K466 : rK M0 M457 o0 ((880 + ra M0 o0 6 44).toNat) := K451.st A462 E461 (by have := mz_nat9 (i := v416) (by have := R445.1 15 _ _ rfl; have := R445.1 16 _ _ rfl; have := R445.1 19 _ _ rfl; have := E450.f yS; omega); have := R445.1 15 _ _ rfl; have := R445.1 16 _ _ rfl; have := R445.1 19 _ _ rfl; have := E450.f yS; omega)
                have K467 : nN M457 o0 := K452.same (sA_a A462 (by decide)) (sF_a V463)
                refine mv_aload_n d_TrustDeskModel_readClause_148 rfl rfl ?_
                obtain ⟨a469, q468, t_a469⟩ := tm_atR I458 t448 (k := 9) rfl
                refine tr_getK q468 d_TrustDeskModel_readClause_149 f_TrustDeskModel_32_13 ?_
                refine mv_iload_n d_TrustDeskModel_readClause_152 rfl rfl ?_
                refine mv_aload_n d_TrustDeskModel_readClause_153 rfl rfl ?_
                refine mv_iconst (v := 1) d_TrustDeskModel_readClause_154 (by decide) ?_
                refine mv_aload_n d_TrustDeskModel_readClause_155 rfl rfl ?_
                refine tr_getK (k := 8) (K459 _ 13 8 _ q456) d_TrustDeskModel_readClause_156 f_TrustDeskModel_29_13 ?_
                refine mv_iload_n d_TrustDeskModel_readClause_159 rfl rfl ?_
                refine tr_ialdR (o := o0) (k := 8) I458 (K459 _ 13 8 _ q456) t449 (by decide) d_TrustDeskModel_readClause_160 (vp_in_iff.mpr (by have := R460.1 15 _ _ rfl; have := R460.1 16 _ _ rfl; have := R460.1 19 _ _ rfl; have := E464.f yS; omega)) (fun v470 e471 => ?_)
                have := R460.a (k := 8) rfl (v416 : Int32).toNatClampNeg
                have h472 : (880 + ra M0 o0 6 44).toNat = v416.toNatClampNeg := by have := mz_nat9 (i := v416) (by have := R460.1 15 _ _ rfl; have := R460.1 16 _ _ rfl; have := R460.1 19 _ _ rfl; have := E464.f yS; omega); have := R460.1 15 _ _ rfl; have := R460.1 16 _ _ rfl; have := R460.1 19 _ _ rfl; have := E464.f yS; omega
                have : v470.toInt = ra M457 o0 8 ((880 + ra M0 o0 6 44).toNat) := by rw [e471, h472]
                obtain ⟨_, b479, -⟩ := I458.1 _ _ t448
                have : (1 : Int32).toInt = 1 := by decide
                refine mv_callV (kc' := 0) (ks' := 0) (As := [.int 1, .int v470]) (st9 := [.int v470, .int 1, .ref o0, .int v416, .ref a469]) d_TrustDeskModel_readClause_161 lV_TrustDeskModel_317 b479 rfl (tc_TrustDeskModel_number_x (d := (d + 23)) (x9 := x9) (o0 := o0) (x1 := 1) (x2 := v470) t448 R460 E464.1 (by have := R460.1 15 _ _ rfl; have := R460.1 16 _ _ rfl; have := R460.1 19 _ _ rfl; have := E464.f yS; omega) I458.start) rfl (Nat.le_of_ble_eq_true rfl) (Nat.le_of_ble_eq_true rfl) (Nat.le_of_ble_eq_true rfl) (hst := rfl) (fun b473r M474 n475 b473 => ?_)
                obtain ⟨T476, J477, v480, rfl, R481, f482, f483⟩ := b473
                have I478 := I458.call J477 (tm_sub (by decide)) (Or.inl rfl)
                have t484 := J477.up t448
                have t485 := J477.up t_a469
                have := (rv_c I458 J477 (I458.up h_o0) (k := 22) rfl)
                have := (rv_c I458 J477 (I458.up h_o0) (k := 24) rfl)
                have := ra_call I458 J477 (I458.up h_o0) (k := 5) rfl rfl rfl 44
                have := ra_call I458 J477 (I458.up h_o0) (k := 6) rfl rfl rfl 44
                have E486 : rE M0 M474 o0 0 3 := E464.trans f482 (by decide) (yR.2 5 _ _ rfl 44).1 (by decide) (by decide)
                have := f482.w
                have := f482.w2
                have := ra_call I458 J477 (I458.up h_o0) (k := 7) rfl rfl rfl ((880 + ra M0 o0 6 44).toNat)
                have := ra_call I458 J477 (I458.up h_o0) (k := 10) rfl rfl rfl ((880 + ra M0 o0 6 44).toNat)
                have := ra_call I458 J477 (I458.up h_o0) (k := 8) rfl rfl rfl ((880 + ra M0 o0 6 44).toNat)
                have K487 : rK M0 M474 o0 ((880 + ra M0 o0 6 44).toNat) := K466.same (sA_c I458 J477 (I458.up h_o0) (by decide))
                have K488 : nN M474 o0 := K467.same (sA_c I458 J477 (I458.up h_o0) (by decide)) (sF_c I458 J477 (I458.up h_o0) (by decide))
                have q489 := J477.keep t448 (by decide) (K459 _ 13 6 _ q453)
                have t490 := J477.up t454
                have q491 := J477.keep t448 (by decide) (K459 _ 13 24 _ q455)
                have q492 := J477.keep t448 (by decide) (K459 _ 13 8 _ q456)
                have t493 := J477.up t449
                have q494 := J477.keep t448 (by decide) q468
                refine tr_iastR (k := 9) I478 R481 (I478.up h_o0) q494 t485 (by decide) (by decide) (fun lo hi h => by cases h) (Or.inl (by decide)) d_TrustDeskModel_readClause_164 (vp_in_iff.mpr (by have := R481.1 15 _ _ rfl; have := R481.1 16 _ _ rfl; have := R481.1 19 _ _ rfl; have := E486.f yS; omega)) (fun M495 I496 K497 R498 E499 A500 V501 => ?_)
                have := V501 15
                have := V501 16
                have := V501 17
                have := V501 19
                have := V501 22
                have := V501 24
                have := A500 5 (by decide) rfl 44
                have := A500 6 (by decide) rfl 44
                have E502 : rE M0 M495 o0 0 3 := E486.same (fun k _ _ => V501 k) (fun k h1 h2 => A500 k (by omega) (by rcases (show k = 4 ∨ k = 5 by omega) with rfl | rfl <;> rfl))
                have := A500 7 (by decide) rfl ((880 + ra M0 o0 6 44).toNat)
                have := A500 10 (by decide) rfl ((880 + ra M0 o0 6 44).toNat)
                have := A500 8 (by decide) rfl ((880 + ra M0 o0 6 44).toNat)
                have K503 : rK M0 M495 o0 ((880 + ra M0 o0 6 44).toNat) := K487.same (sA_a A500 (by decide))
                have K504 : nN M495 o0 := K488.same (sA_a A500 (by decide)) (sF_a V501)
                refine mv_aload_n d_TrustDeskModel_readClause_165 rfl rfl ?_
                refine mv_bipush (v := 59) d_TrustDeskModel_readClause_166 (by decide) ?_
                obtain ⟨_, b511, -⟩ := I496.1 _ _ t484
                have : (59 : Int32).toInt = 59 := by decide
                refine mv_callV (kc' := 0) (ks' := 0) (As := [.int 59]) (st9 := [.int 59, .ref o0]) d_TrustDeskModel_readClause_168 lV_TrustDeskModel_291 b511 rfl (tc_TrustDeskModel_wantSign_x (d := (d + 23)) (x9 := x9) (o0 := o0) (x1 := 59) t484 R498 E502.1 (by have := R498.1 15 _ _ rfl; have := R498.1 16 _ _ rfl; have := R498.1 19 _ _ rfl; have := E502.f yS; omega) I496.start) rfl (Nat.le_of_ble_eq_true rfl) (Nat.le_of_ble_eq_true rfl) (Nat.le_of_ble_eq_true rfl) (hst := rfl) (fun b505r M506 n507 b505 => ?_)
                obtain ⟨T508, J509, rfl, R512, f513⟩ := b505
                have I510 := I496.call J509 (tm_sub (by decide)) (Or.inl rfl)
                have t514 := J509.up t484
                have := (rv_c I496 J509 (I496.up h_o0) (k := 22) rfl)
                have := (rv_c I496 J509 (I496.up h_o0) (k := 24) rfl)
                have := ra_call I496 J509 (I496.up h_o0) (k := 5) rfl rfl rfl 44
                have := ra_call I496 J509 (I496.up h_o0) (k := 6) rfl rfl rfl 44
                have E515 : rE M0 M506 o0 0 4 := E502.trans f513 (by decide) (yR.2 5 _ _ rfl 44).1 (by decide) (by decide)
                have := f513.w
                have := f513.w2
                have := ra_call I496 J509 (I496.up h_o0) (k := 7) rfl rfl rfl ((880 + ra M0 o0 6 44).toNat)
                have := ra_call I496 J509 (I496.up h_o0) (k := 10) rfl rfl rfl ((880 + ra M0 o0 6 44).toNat)
                have := ra_call I496 J509 (I496.up h_o0) (k := 8) rfl rfl rfl ((880 + ra M0 o0 6 44).toNat)
                have K516 : rK M0 M506 o0 ((880 + ra M0 o0 6 44).toNat) := K503.same (sA_c I496 J509 (I496.up h_o0) (by decide))
                have K517 : nN M506 o0 := K504.same (sA_c I496 J509 (I496.up h_o0) (by decide)) (sF_c I496 J509 (I496.up h_o0) (by decide))
                have q518 := J509.keep t484 (by decide) (K497 _ 13 6 _ q489)
                have t519 := J509.up t490
                have q520 := J509.keep t484 (by decide) (K497 _ 13 24 _ q491)
                have q521 := J509.keep t484 (by decide) (K497 _ 13 8 _ q492)
                have t522 := J509.up t493
                have q523 := J509.keep t484 (by decide) (K497 _ 13 9 _ q494)
                have t524 := J509.up t485
                refine mv_aload_n d_TrustDeskModel_readClause_171 rfl rfl ?_
                obtain ⟨a526, q525, t_a526⟩ := tm_atR I510 t514 (k := 12) rfl
                refine tr_getK q525 d_TrustDeskModel_readClause_172 f_TrustDeskModel_41_13 ?_
                refine mv_iload_n d_TrustDeskModel_readClause_175 rfl rfl ?_
                refine mv_aload_n d_TrustDeskModel_readClause_176 rfl rfl ?_
                obtain ⟨a528, q527, t_a528⟩ := tm_atR I510 t514 (k := 5) rfl
                refine tr_getK q527 d_TrustDeskModel_readClause_177 f_TrustDeskModel_20_13 ?_
                refine mv_bipush (v := 44) d_TrustDeskModel_readClause_180 (by decide) ?_
                refine tr_ialdR (o := o0) (k := 5) I510 q527 t_a528 (by decide) d_TrustDeskModel_readClause_182 (by unfold vp_in; decide) (fun v529 e530 => ?_)
                have := R512.a (k := 5) rfl (44 : Int32).toNatClampNeg
                have : v529.toInt = ra M506 o0 5 44 := e530
                refine tr_iastR (k := 12) I510 R512 (I510.up h_o0) q525 t_a526 (by decide) (by decide) (fun lo hi h => by cases h; have := R512.1 15 _ _ rfl; have := R512.1 16 _ _ rfl; have := R512.1 19 _ _ rfl; have := E515.f yS; exact ⟨by show (0 : Int) ≤ v529.toInt; omega, by show v529.toInt ≤ (400 : Int); omega⟩) (Or.inl (by decide)) d_TrustDeskModel_readClause_183 (vp_in_iff.mpr (by have := R512.1 15 _ _ rfl; have := R512.1 16 _ _ rfl; have := R512.1 19 _ _ rfl; have := E515.f yS; omega)) (fun M531 I532 K533 R534 E535 A536 V537 => ?_)
                have := V537 15
                have := V537 16
                have := V537 17
                have := V537 19
                have := V537 22
                have := V537 24
                have := A536 5 (by decide) rfl 44
                have := A536 6 (by decide) rfl 44
                have E538 : rE M0 M531 o0 0 4 := E515.same (fun k _ _ => V537 k) (fun k h1 h2 => A536 k (by omega) (by rcases (show k = 4 ∨ k = 5 by omega) with rfl | rfl <;> rfl))
                have := A536 7 (by decide) rfl ((880 + ra M0 o0 6 44).toNat)
                have := A536 10 (by decide) rfl ((880 + ra M0 o0 6 44).toNat)
                have := A536 8 (by decide) rfl ((880 + ra M0 o0 6 44).toNat)
                have h539 : (880 + ra M0 o0 6 44).toNat = v416.toNatClampNeg := by have := mz_nat9 (i := v416) (by have := R512.1 15 _ _ rfl; have := R512.1 16 _ _ rfl; have := R512.1 19 _ _ rfl; have := E515.f yS; omega); have := R512.1 15 _ _ rfl; have := R512.1 16 _ _ rfl; have := R512.1 19 _ _ rfl; have := E515.f yS; omega
                have : ra M531 o0 12 ((880 + ra M0 o0 6 44).toNat) = v529.toInt := (E535 _).trans (if_pos h539)
                have K540 : rK M0 M531 o0 ((880 + ra M0 o0 6 44).toNat) := K516.st A536 E535 (by have := mz_nat9 (i := v416) (by have := R512.1 15 _ _ rfl; have := R512.1 16 _ _ rfl; have := R512.1 19 _ _ rfl; have := E515.f yS; omega); have := R512.1 15 _ _ rfl; have := R512.1 16 _ _ rfl; have := R512.1 19 _ _ rfl; have := E515.f yS; omega)
                have K541 : nN M531 o0 := K517.same (sA_a A536 (by decide)) (sF_a V537)
                exact mv_vret d_TrustDeskModel_readClause_184 rfl ⟨_, I532, rfl, R534, (rW.of E538.1 (fun w9 => (by have := R534.1 15 _ _ rfl; have := R534.1 16 _ _ rfl; have := R534.1 19 _ _ rfl; have := E538.f yS; omega)) (fun w9 => rG.step yG yR E538 w9 K540 (by have := yR.2 6 _ _ rfl 44; omega) (by have := R534.1 15 _ _ rfl; have := R534.1 16 _ _ rfl; have := R534.1 19 _ _ rfl; have := E538.f yS; omega) (by have := R534.1 15 _ _ rfl; have := R534.1 16 _ _ rfl; have := R534.1 19 _ _ rfl; have := E538.f yS; omega) (fun h9 => by exfalso; have := R534.1 15 _ _ rfl; have := R534.1 16 _ _ rfl; have := R534.1 19 _ _ rfl; have := E538.f yS; omega) (fun h9 => (by have := R534.1 15 _ _ rfl; have := R534.1 16 _ _ rfl; have := R534.1 19 _ _ rfl; have := E538.f yS; omega)) (by have := R534.1 15 _ _ rfl; have := R534.1 16 _ _ rfl; have := R534.1 19 _ _ rfl; have := E538.f yS; omega) K541)), (rO.of E538 K540 (by have := yR.2 6 _ _ rfl 44; omega)), (by have := R534.1 15 _ _ rfl; have := R534.1 16 _ _ rfl; have := R534.1 19 _ _ rfl; have := E538.f yS; omega), (by have := R534.1 15 _ _ rfl; have := R534.1 16 _ _ rfl; have := R534.1 19 _ _ rfl; have := E538.f yS; omega), (fun h9 _ => absurd h9 (f16 (by have := R534.1 15 _ _ rfl; have := R534.1 16 _ _ rfl; have := R534.1 19 _ _ rfl; have := E538.f yS; omega)))⟩
              · refine mv_bipush (v := 7) d_TrustDeskModel_readClause_100 (by decide) ?_
                refine mv_goto (tgt := 107) d_TrustDeskModel_readClause_102 (by decide) ?_
                obtain ⟨_, b548, -⟩ := I392.1 _ _ t399
                have : (7 : Int32).toInt = 7 := by decide
                refine mv_callV (kc' := 0) (ks' := 0) (As := [.int 7]) (st9 := [.int 7, .ref o0]) d_TrustDeskModel_readClause_107 lV_TrustDeskModel_342 b548 rfl (tc_TrustDeskModel_begin_x (d := (d + 23)) (x9 := x9) (o0 := o0) (x1 := 7) t399 R397 E400.1 (by have := R397.1 15 _ _ rfl; have := R397.1 16 _ _ rfl; have := R397.1 19 _ _ rfl; have := E400.f yS; omega) (by have := R397.1 15 _ _ rfl; have := R397.1 16 _ _ rfl; have := R397.1 19 _ _ rfl; have := E400.f yS; omega) (by have := R397.1 15 _ _ rfl; have := R397.1 16 _ _ rfl; have := R397.1 19 _ _ rfl; have := E400.f yS; omega) (by have := R397.1 15 _ _ rfl; have := R397.1 16 _ _ rfl; have := R397.1 19 _ _ rfl; have := E400.f yS; omega) I392.start) rfl (Nat.le_of_ble_eq_true rfl) (Nat.le_of_ble_eq_true rfl) (Nat.le_of_ble_eq_true rfl) (hst := rfl) (fun b542r M543 n544 b542 => ?_)
                obtain ⟨T545, J546, v549, rfl, R550, f551, f552, f553, f554, f555, f556⟩ := b542
                have I547 := I392.call J546 (tm_sub (by decide)) (Or.inl rfl)
                have t557 := J546.up t399
                have := (rv_c I392 J546 (I392.up h_o0) (k := 19) rfl)
                have := (rv_c I392 J546 (I392.up h_o0) (k := 22) rfl)
                have := (rv_c I392 J546 (I392.up h_o0) (k := 24) rfl)
                have := ra_call I392 J546 (I392.up h_o0) (k := 5) rfl rfl rfl 44
                have E558 : rE M0 M543 o0 0 1 := E400.trans f551 (by decide) (yR.2 5 _ _ rfl 44).1 (by decide) (by decide)
                have := f551.w
                have := f551.w2
                have h559 : (880 + ra M388 o0 6 44).toNat = (880 + ra M0 o0 6 44).toNat := by omega
                rw [h559] at f554 f555 f556
                have K560 : rK M0 M543 o0 ((880 + ra M0 o0 6 44).toNat) := K401.trans f556
                have K561 : nN M543 o0 := K402.same (sA_c I392 J546 (I392.up h_o0) (by decide)) (sF_c I392 J546 (I392.up h_o0) (by decide))
                have q562 := J546.keep t399 (by decide) q403
                have t563 := J546.up t404
                have q564 := J546.keep t399 (by decide) q405
                have q565 := J546.keep t399 (by decide) q406
                refine mv_istore_n (lv' := [(3, .int v549), (2, .int v394), (1, .int v10), (0, .ref o0)]) d_TrustDeskModel_readClause_110 rfl (by decide) rfl ?_
                refine mv_iload_n d_TrustDeskModel_readClause_111 rfl rfl ?_
                have := mz_hi v10
                refine mv_if_eqZ (tgt := 123) (a := v10.toInt) d_TrustDeskModel_readClause_112 (by decide) rfl (fun b566 => ?_) (fun b566 => absurd b566 (by omega))
                refine mv_iload_n d_TrustDeskModel_readClause_123 rfl rfl ?_
                have := mz_hi v394
                refine mv_if_eqZ (tgt := 135) (a := v394.toInt) d_TrustDeskModel_readClause_124 (by decide) rfl (fun b567 => ?_) (fun b567 => ?_)
                · refine mv_aload_n d_TrustDeskModel_readClause_135 rfl rfl ?_
                  obtain ⟨a569, q568, t_a569⟩ := tm_atR I547 t557 (k := 8) rfl
                  refine tr_getK q568 d_TrustDeskModel_readClause_136 f_TrustDeskModel_29_13 ?_
                  refine mv_iload_n d_TrustDeskModel_readClause_139 rfl rfl ?_
                  refine mv_aload_n d_TrustDeskModel_readClause_140 rfl rfl ?_
                  refine mv_iconst (v := 1) d_TrustDeskModel_readClause_141 (by decide) ?_
                  refine mv_bipush (v := 7) d_TrustDeskModel_readClause_142 (by decide) ?_
                  obtain ⟨_, b576, -⟩ := I547.1 _ _ t557
                  have : (1 : Int32).toInt = 1 := by decide
                  have : (7 : Int32).toInt = 7 := by decide
                  refine mv_callV (kc' := 0) (ks' := 0) (As := [.int 1, .int 7]) (st9 := [.int 7, .int 1, .ref o0, .int v549, .ref a569]) d_TrustDeskModel_readClause_144 lV_TrustDeskModel_317 b576 rfl (tc_TrustDeskModel_number_x (d := (d + 23)) (x9 := x9) (o0 := o0) (x1 := 1) (x2 := 7) t557 R550 E558.1 (by have := R550.1 15 _ _ rfl; have := R550.1 16 _ _ rfl; have := R550.1 19 _ _ rfl; have := E558.f yS; omega) I547.start) rfl (Nat.le_of_ble_eq_true rfl) (Nat.le_of_ble_eq_true rfl) (Nat.le_of_ble_eq_true rfl) (hst := rfl) (fun b570r M571 n572 b570 => ?_)
                  obtain ⟨T573, J574, v577, rfl, R578, f579, f580⟩ := b570
                  have I575 := I547.call J574 (tm_sub (by decide)) (Or.inl rfl)
                  have t581 := J574.up t557
                  have t582 := J574.up t_a569
                  have := (rv_c I547 J574 (I547.up h_o0) (k := 22) rfl)
                  have := (rv_c I547 J574 (I547.up h_o0) (k := 24) rfl)
                  have := ra_call I547 J574 (I547.up h_o0) (k := 5) rfl rfl rfl 44
                  have := ra_call I547 J574 (I547.up h_o0) (k := 6) rfl rfl rfl 44
                  have E583 : rE M0 M571 o0 0 2 := E558.trans f579 (by decide) (yR.2 5 _ _ rfl 44).1 (by decide) (by decide)
                  have := f579.w
                  have := f579.w2
                  have := ra_call I547 J574 (I547.up h_o0) (k := 7) rfl rfl rfl ((880 + ra M0 o0 6 44).toNat)
                  have := ra_call I547 J574 (I547.up h_o0) (k := 10) rfl rfl rfl ((880 + ra M0 o0 6 44).toNat)
                  have K584 : rK M0 M571 o0 ((880 + ra M0 o0 6 44).toNat) := K560.same (sA_c I547 J574 (I547.up h_o0) (by decide))
                  have K585 : nN M571 o0 := K561.same (sA_c I547 J574 (I547.up h_o0) (by decide)) (sF_c I547 J574 (I547.up h_o0) (by decide))
                  have q586 := J574.keep t557 (by decide) q562
                  have t587 := J574.up t563
                  have q588 := J574.keep t557 (by decide) q564
                  have q589 := J574.keep t557 (by decide) q568
                  refine tr_iastR (k := 8) I575 R578 (I575.up h_o0) q589 t582 (by decide) (by decide) (fun lo hi h => by cases h; have := R578.1 15 _ _ rfl; have := R578.1 16 _ _ rfl; have := R578.1 19 _ _ rfl; have := E583.f yS; exact ⟨by show ((-1) : Int) ≤ v577.toInt; omega, by show v577.toInt ≤ (720 : Int); omega⟩) (Or.inl (by decide)) d_TrustDeskModel_readClause_147 (vp_in_iff.mpr (by have := R578.1 15 _ _ rfl; have := R578.1 16 _ _ rfl; have := R578.1 19 _ _ rfl; have := E583.f yS; omega)) (fun M590 I591 K592 R593 E594 A595 V596 => ?_)
                  have := V596 15
                  have := V596 16
                  have := V596 17
                  have := V596 19
                  have := V596 22
                  have := V596 24
                  have := A595 5 (by decide) rfl 44
                  have := A595 6 (by decide) rfl 44
                  have E597 : rE M0 M590 o0 0 2 := E583.same (fun k _ _ => V596 k) (fun k h1 h2 => A595 k (by omega) (by rcases (show k = 4 ∨ k = 5 by omega) with rfl | rfl <;> rfl))
                  have := A595 7 (by decide) rfl ((880 + ra M0 o0 6 44).toNat)
                  have := A595 10 (by decide) rfl ((880 + ra M0 o0 6 44).toNat)
                  have h598 : (880 + ra M0 o0 6 44).toNat = v549.toNatClampNeg := by have := mz_nat9 (i := v549) (by have := R578.1 15 _ _ rfl; have := R578.1 16 _ _ rfl; have := R578.1 19 _ _ rfl; have := E583.f yS; omega); have := R578.1 15 _ _ rfl; have := R578.1 16 _ _ rfl; have := R578.1 19 _ _ rfl; have := E583.f yS; omega
                  have : ra M590 o0 8 ((880 + ra M0 o0 6 44).toNat) = v577.toInt := (E594 _).trans (if_pos h598)
                  have K599 : rK M0 M590 o0 ((880 + ra M0 o0 6 44).toNat) := K584.st A595 E594 (by have := mz_nat9 (i := v549) (by have := R578.1 15 _ _ rfl; have := R578.1 16 _ _ rfl; have := R578.1 19 _ _ rfl; have := E583.f yS; omega); have := R578.1 15 _ _ rfl; have := R578.1 16 _ _ rfl; have := R578.1 19 _ _ rfl; have := E583.f yS; omega)
                  have K600 : nN M590 o0 := K585.same (sA_a A595 (by decide)) (sF_a V596)
                  refine mv_aload_n d_TrustDeskModel_readClause_148 rfl rfl ?_
                  obtain ⟨a602, q601, t_a602⟩ := tm_atR I591 t581 (k := 9) rfl
                  refine tr_getK q601 d_TrustDeskModel_readClause_149 f_TrustDeskModel_32_13 ?_
                  refine mv_iload_n d_TrustDeskModel_readClause_152 rfl rfl ?_
                  refine mv_aload_n d_TrustDeskModel_readClause_153 rfl rfl ?_
                  refine mv_iconst (v := 1) d_TrustDeskModel_readClause_154 (by decide) ?_
                  refine mv_aload_n d_TrustDeskModel_readClause_155 rfl rfl ?_
                  refine tr_getK (k := 8) (K592 _ 13 8 _ q589) d_TrustDeskModel_readClause_156 f_TrustDeskModel_29_13 ?_
                  refine mv_iload_n d_TrustDeskModel_readClause_159 rfl rfl ?_
                  refine tr_ialdR (o := o0) (k := 8) I591 (K592 _ 13 8 _ q589) t582 (by decide) d_TrustDeskModel_readClause_160 (vp_in_iff.mpr (by have := R593.1 15 _ _ rfl; have := R593.1 16 _ _ rfl; have := R593.1 19 _ _ rfl; have := E597.f yS; omega)) (fun v603 e604 => ?_)
                  have := R593.a (k := 8) rfl (v549 : Int32).toNatClampNeg
                  have h605 : (880 + ra M0 o0 6 44).toNat = v549.toNatClampNeg := by have := mz_nat9 (i := v549) (by have := R593.1 15 _ _ rfl; have := R593.1 16 _ _ rfl; have := R593.1 19 _ _ rfl; have := E597.f yS; omega); have := R593.1 15 _ _ rfl; have := R593.1 16 _ _ rfl; have := R593.1 19 _ _ rfl; have := E597.f yS; omega
                  have : v603.toInt = ra M590 o0 8 ((880 + ra M0 o0 6 44).toNat) := by rw [e604, h605]
                  obtain ⟨_, b612, -⟩ := I591.1 _ _ t581
                  have : (1 : Int32).toInt = 1 := by decide
                  refine mv_callV (kc' := 0) (ks' := 0) (As := [.int 1, .int v603]) (st9 := [.int v603, .int 1, .ref o0, .int v549, .ref a602]) d_TrustDeskModel_readClause_161 lV_TrustDeskModel_317 b612 rfl (tc_TrustDeskModel_number_x (d := (d + 23)) (x9 := x9) (o0 := o0) (x1 := 1) (x2 := v603) t581 R593 E597.1 (by have := R593.1 15 _ _ rfl; have := R593.1 16 _ _ rfl; have := R593.1 19 _ _ rfl; have := E597.f yS; omega) I591.start) rfl (Nat.le_of_ble_eq_true rfl) (Nat.le_of_ble_eq_true rfl) (Nat.le_of_ble_eq_true rfl) (hst := rfl) (fun b606r M607 n608 b606 => ?_)
                  obtain ⟨T609, J610, v613, rfl, R614, f615, f616⟩ := b606
                  have I611 := I591.call J610 (tm_sub (by decide)) (Or.inl rfl)
                  have t617 := J610.up t581
                  have t618 := J610.up t_a602
                  have := (rv_c I591 J610 (I591.up h_o0) (k := 22) rfl)
                  have := (rv_c I591 J610 (I591.up h_o0) (k := 24) rfl)
                  have := ra_call I591 J610 (I591.up h_o0) (k := 5) rfl rfl rfl 44
                  have := ra_call I591 J610 (I591.up h_o0) (k := 6) rfl rfl rfl 44
                  have E619 : rE M0 M607 o0 0 3 := E597.trans f615 (by decide) (yR.2 5 _ _ rfl 44).1 (by decide) (by decide)
                  have := f615.w
                  have := f615.w2
                  have := ra_call I591 J610 (I591.up h_o0) (k := 7) rfl rfl rfl ((880 + ra M0 o0 6 44).toNat)
                  have := ra_call I591 J610 (I591.up h_o0) (k := 10) rfl rfl rfl ((880 + ra M0 o0 6 44).toNat)
                  have := ra_call I591 J610 (I591.up h_o0) (k := 8) rfl rfl rfl ((880 + ra M0 o0 6 44).toNat)
                  have K620 : rK M0 M607 o0 ((880 + ra M0 o0 6 44).toNat) := K599.same (sA_c I591 J610 (I591.up h_o0) (by decide))
                  have K621 : nN M607 o0 := K600.same (sA_c I591 J610 (I591.up h_o0) (by decide)) (sF_c I591 J610 (I591.up h_o0) (by decide))
                  have q622 := J610.keep t581 (by decide) (K592 _ 13 6 _ q586)
                  have t623 := J610.up t587
                  have q624 := J610.keep t581 (by decide) (K592 _ 13 24 _ q588)
                  have q625 := J610.keep t581 (by decide) (K592 _ 13 8 _ q589)
                  have t626 := J610.up t582
                  have q627 := J610.keep t581 (by decide) q601
                  refine tr_iastR (k := 9) I611 R614 (I611.up h_o0) q627 t618 (by decide) (by decide) (fun lo hi h => by cases h) (Or.inl (by decide)) d_TrustDeskModel_readClause_164 (vp_in_iff.mpr (by have := R614.1 15 _ _ rfl; have := R614.1 16 _ _ rfl; have := R614.1 19 _ _ rfl; have := E619.f yS; omega)) (fun M628 I629 K630 R631 E632 A633 V634 => ?_)
                  have := V634 15
                  have := V634 16
                  have := V634 17
                  have := V634 19
                  have := V634 22
                  have := V634 24
                  have := A633 5 (by decide) rfl 44
                  have := A633 6 (by decide) rfl 44
                  have E635 : rE M0 M628 o0 0 3 := E619.same (fun k _ _ => V634 k) (fun k h1 h2 => A633 k (by omega) (by rcases (show k = 4 ∨ k = 5 by omega) with rfl | rfl <;> rfl))
                  have := A633 7 (by decide) rfl ((880 + ra M0 o0 6 44).toNat)
                  have := A633 10 (by decide) rfl ((880 + ra M0 o0 6 44).toNat)
                  have := A633 8 (by decide) rfl ((880 + ra M0 o0 6 44).toNat)
                  have K636 : rK M0 M628 o0 ((880 + ra M0 o0 6 44).toNat) := K620.same (sA_a A633 (by decide))
                  have K637 : nN M628 o0 := K621.same (sA_a A633 (by decide)) (sF_a V634)
                  refine mv_aload_n d_TrustDeskModel_readClause_165 rfl rfl ?_
                  refine mv_bipush (v := 59) d_TrustDeskModel_readClause_166 (by decide) ?_
                  obtain ⟨_, b644, -⟩ := I629.1 _ _ t617
                  have : (59 : Int32).toInt = 59 := by decide
                  refine mv_callV (kc' := 0) (ks' := 0) (As := [.int 59]) (st9 := [.int 59, .ref o0]) d_TrustDeskModel_readClause_168 lV_TrustDeskModel_291 b644 rfl (tc_TrustDeskModel_wantSign_x (d := (d + 23)) (x9 := x9) (o0 := o0) (x1 := 59) t617 R631 E635.1 (by have := R631.1 15 _ _ rfl; have := R631.1 16 _ _ rfl; have := R631.1 19 _ _ rfl; have := E635.f yS; omega) I629.start) rfl (Nat.le_of_ble_eq_true rfl) (Nat.le_of_ble_eq_true rfl) (Nat.le_of_ble_eq_true rfl) (hst := rfl) (fun b638r M639 n640 b638 => ?_)
                  obtain ⟨T641, J642, rfl, R645, f646⟩ := b638
                  have I643 := I629.call J642 (tm_sub (by decide)) (Or.inl rfl)
                  have t647 := J642.up t617
                  have := (rv_c I629 J642 (I629.up h_o0) (k := 22) rfl)
                  have := (rv_c I629 J642 (I629.up h_o0) (k := 24) rfl)
                  have := ra_call I629 J642 (I629.up h_o0) (k := 5) rfl rfl rfl 44
                  have := ra_call I629 J642 (I629.up h_o0) (k := 6) rfl rfl rfl 44
                  have E648 : rE M0 M639 o0 0 4 := E635.trans f646 (by decide) (yR.2 5 _ _ rfl 44).1 (by decide) (by decide)
                  have := f646.w
                  have := f646.w2
                  have := ra_call I629 J642 (I629.up h_o0) (k := 7) rfl rfl rfl ((880 + ra M0 o0 6 44).toNat)
                  have := ra_call I629 J642 (I629.up h_o0) (k := 10) rfl rfl rfl ((880 + ra M0 o0 6 44).toNat)
                  have := ra_call I629 J642 (I629.up h_o0) (k := 8) rfl rfl rfl ((880 + ra M0 o0 6 44).toNat)
                  have K649 : rK M0 M639 o0 ((880 + ra M0 o0 6 44).toNat) := K636.same (sA_c I629 J642 (I629.up h_o0) (by decide))
                  have K650 : nN M639 o0 := K637.same (sA_c I629 J642 (I629.up h_o0) (by decide)) (sF_c I629 J642 (I629.up h_o0) (by decide))
                  have q651 := J642.keep t617 (by decide) (K630 _ 13 6 _ q622)
                  have t652 := J642.up t623
                  have q653 := J642.keep t617 (by decide) (K630 _ 13 24 _ q624)
                  have q654 := J642.keep t617 (by decide) (K630 _ 13 8 _ q625)
                  have t655 := J642.up t626
                  have q656 := J642.keep t617 (by decide) (K630 _ 13 9 _ q627)
                  have t657 := J642.up t618
                  refine mv_aload_n d_TrustDeskModel_readClause_171 rfl rfl ?_
                  obtain ⟨a659, q658, t_a659⟩ := tm_atR I643 t647 (k := 12) rfl
                  refine tr_getK q658 d_TrustDeskModel_readClause_172 f_TrustDeskModel_41_13 ?_
                  refine mv_iload_n d_TrustDeskModel_readClause_175 rfl rfl ?_
                  refine mv_aload_n d_TrustDeskModel_readClause_176 rfl rfl ?_
                  obtain ⟨a661, q660, t_a661⟩ := tm_atR I643 t647 (k := 5) rfl
                  refine tr_getK q660 d_TrustDeskModel_readClause_177 f_TrustDeskModel_20_13 ?_
                  refine mv_bipush (v := 44) d_TrustDeskModel_readClause_180 (by decide) ?_
                  refine tr_ialdR (o := o0) (k := 5) I643 q660 t_a661 (by decide) d_TrustDeskModel_readClause_182 (by unfold vp_in; decide) (fun v662 e663 => ?_)
                  have := R645.a (k := 5) rfl (44 : Int32).toNatClampNeg
                  have : v662.toInt = ra M639 o0 5 44 := e663
                  refine tr_iastR (k := 12) I643 R645 (I643.up h_o0) q658 t_a659 (by decide) (by decide) (fun lo hi h => by cases h; have := R645.1 15 _ _ rfl; have := R645.1 16 _ _ rfl; have := R645.1 19 _ _ rfl; have := E648.f yS; exact ⟨by show (0 : Int) ≤ v662.toInt; omega, by show v662.toInt ≤ (400 : Int); omega⟩) (Or.inl (by decide)) d_TrustDeskModel_readClause_183 (vp_in_iff.mpr (by have := R645.1 15 _ _ rfl; have := R645.1 16 _ _ rfl; have := R645.1 19 _ _ rfl; have := E648.f yS; omega)) (fun M664 I665 K666 R667 E668 A669 V670 => ?_)
                  have := V670 15
                  have := V670 16
                  have := V670 17
                  have := V670 19
                  have := V670 22
                  have := V670 24
                  have := A669 5 (by decide) rfl 44
                  have := A669 6 (by decide) rfl 44
                  have E671 : rE M0 M664 o0 0 4 := E648.same (fun k _ _ => V670 k) (fun k h1 h2 => A669 k (by omega) (by rcases (show k = 4 ∨ k = 5 by omega) with rfl | rfl <;> rfl))
                  have := A669 7 (by decide) rfl ((880 + ra M0 o0 6 44).toNat)
                  have := A669 10 (by decide) rfl ((880 + ra M0 o0 6 44).toNat)
                  have := A669 8 (by decide) rfl ((880 + ra M0 o0 6 44).toNat)
                  have h672 : (880 + ra M0 o0 6 44).toNat = v549.toNatClampNeg := by have := mz_nat9 (i := v549) (by have := R645.1 15 _ _ rfl; have := R645.1 16 _ _ rfl; have := R645.1 19 _ _ rfl; have := E648.f yS; omega); have := R645.1 15 _ _ rfl; have := R645.1 16 _ _ rfl; have := R645.1 19 _ _ rfl; have := E648.f yS; omega
                  have : ra M664 o0 12 ((880 + ra M0 o0 6 44).toNat) = v662.toInt := (E668 _).trans (if_pos h672)
                  have K673 : rK M0 M664 o0 ((880 + ra M0 o0 6 44).toNat) := K649.st A669 E668 (by have := mz_nat9 (i := v549) (by have := R645.1 15 _ _ rfl; have := R645.1 16 _ _ rfl; have := R645.1 19 _ _ rfl; have := E648.f yS; omega); have := R645.1 15 _ _ rfl; have := R645.1 16 _ _ rfl; have := R645.1 19 _ _ rfl; have := E648.f yS; omega)
                  have K674 : nN M664 o0 := K650.same (sA_a A669 (by decide)) (sF_a V670)
                  exact mv_vret d_TrustDeskModel_readClause_184 rfl ⟨_, I665, rfl, R667, (rW.of E671.1 (fun w9 => (by have := R667.1 15 _ _ rfl; have := R667.1 16 _ _ rfl; have := R667.1 19 _ _ rfl; have := E671.f yS; omega)) (fun w9 => rG.step yG yR E671 w9 K673 (by have := yR.2 6 _ _ rfl 44; omega) (by have := R667.1 15 _ _ rfl; have := R667.1 16 _ _ rfl; have := R667.1 19 _ _ rfl; have := E671.f yS; omega) (by have := R667.1 15 _ _ rfl; have := R667.1 16 _ _ rfl; have := R667.1 19 _ _ rfl; have := E671.f yS; omega) (fun h9 => by exfalso; have := R667.1 15 _ _ rfl; have := R667.1 16 _ _ rfl; have := R667.1 19 _ _ rfl; have := E671.f yS; omega) (fun h9 => (by have := R667.1 15 _ _ rfl; have := R667.1 16 _ _ rfl; have := R667.1 19 _ _ rfl; have := E671.f yS; omega)) (by have := R667.1 15 _ _ rfl; have := R667.1 16 _ _ rfl; have := R667.1 19 _ _ rfl; have := E671.f yS; omega) K674)), (rO.of E671 K673 (by have := yR.2 6 _ _ rfl 44; omega)), (by have := R667.1 15 _ _ rfl; have := R667.1 16 _ _ rfl; have := R667.1 19 _ _ rfl; have := E671.f yS; omega), (by have := R667.1 15 _ _ rfl; have := R667.1 16 _ _ rfl; have := R667.1 19 _ _ rfl; have := E671.f yS; omega), (fun h9 _ => absurd h9 (f16 (by have := R667.1 15 _ _ rfl; have := R667.1 16 _ _ rfl; have := R667.1 19 _ _ rfl; have := E671.f yS; omega)))⟩
                · refine mv_aload_n d_TrustDeskModel_readClause_127 rfl rfl ?_
                  refine mv_iload_n d_TrustDeskModel_readClause_128 rfl rfl ?_
                  obtain ⟨_, b681, -⟩ := I547.1 _ _ t557
                  refine mv_callV (kc' := 0) (ks' := 0) (As := [.int v549]) (st9 := [.int v549, .ref o0]) d_TrustDeskModel_readClause_129 lV_TrustDeskModel_348 b681 rfl (tc_TrustDeskModel_readMarks_x (d := (d + 22)) (x9 := x9) (o0 := o0) (x1 := v549) t557 R550 E558.1 (by have := R550.1 15 _ _ rfl; have := R550.1 16 _ _ rfl; have := R550.1 19 _ _ rfl; have := E558.f yS; omega) (by have := R550.1 15 _ _ rfl; have := R550.1 16 _ _ rfl; have := R550.1 19 _ _ rfl; have := E558.f yS; omega) I547.start) rfl (Nat.le_of_ble_eq_true rfl) (Nat.le_of_ble_eq_true rfl) (Nat.le_of_ble_eq_true rfl) (hst := rfl) (fun b675r M676 n677 b675 => ?_)
                  obtain ⟨T678, J679, rfl, R682, f683, f684, f685⟩ := b675
                  have I680 := I547.call J679 (tm_sub (by decide)) (Or.inl rfl)
                  have t686 := J679.up t557
                  have := (rv_c I547 J679 (I547.up h_o0) (k := 22) rfl)
                  have := (rv_c I547 J679 (I547.up h_o0) (k := 24) rfl)
                  have := ra_call I547 J679 (I547.up h_o0) (k := 5) rfl rfl rfl 44
                  have := ra_call I547 J679 (I547.up h_o0) (k := 6) rfl rfl rfl 44
                  have E687 : rE M0 M676 o0 0 1 := E558.trans f683 (by decide) (yR.2 5 _ _ rfl 44).1 (by decide) (by decide)
                  have := f683.w
                  have := f683.w2
                  have := ra_call I547 J679 (I547.up h_o0) (k := 7) rfl rfl rfl ((880 + ra M0 o0 6 44).toNat)
                  have := ra_call I547 J679 (I547.up h_o0) (k := 10) rfl rfl rfl ((880 + ra M0 o0 6 44).toNat)
                  have h688 : v549.toNatClampNeg = (880 + ra M0 o0 6 44).toNat := by have := mz_nat9 (i := v549) (by have := R550.1 15 _ _ rfl; have := R550.1 16 _ _ rfl; have := R550.1 19 _ _ rfl; have := E558.f yS; omega); have := R550.1 15 _ _ rfl; have := R550.1 16 _ _ rfl; have := R550.1 19 _ _ rfl; have := E558.f yS; omega
                  rw [h688] at f684 f685
                  have K689 : rK M0 M676 o0 ((880 + ra M0 o0 6 44).toNat) := K560.one8 (sA_c I547 J679 (I547.up h_o0) (by decide)) f684
                  have K690 : nN M676 o0 := K561.same (sA_c I547 J679 (I547.up h_o0) (by decide)) (sF_c I547 J679 (I547.up h_o0) (by decide))
                  have q691 := J679.keep t557 (by decide) q562
                  have t692 := J679.up t563
                  have q693 := J679.keep t557 (by decide) q564
                  refine mv_goto (tgt := 165) d_TrustDeskModel_readClause_132 (by decide) ?_
                  refine mv_aload_n d_TrustDeskModel_readClause_165 rfl rfl ?_
                  refine mv_bipush (v := 59) d_TrustDeskModel_readClause_166 (by decide) ?_
                  obtain ⟨_, b700, -⟩ := I680.1 _ _ t686
                  have : (59 : Int32).toInt = 59 := by decide
                  refine mv_callV (kc' := 0) (ks' := 0) (As := [.int 59]) (st9 := [.int 59, .ref o0]) d_TrustDeskModel_readClause_168 lV_TrustDeskModel_291 b700 rfl (tc_TrustDeskModel_wantSign_x (d := (d + 23)) (x9 := x9) (o0 := o0) (x1 := 59) t686 R682 E687.1 (by have := R682.1 15 _ _ rfl; have := R682.1 16 _ _ rfl; have := R682.1 19 _ _ rfl; have := E687.f yS; omega) I680.start) rfl (Nat.le_of_ble_eq_true rfl) (Nat.le_of_ble_eq_true rfl) (Nat.le_of_ble_eq_true rfl) (hst := rfl) (fun b694r M695 n696 b694 => ?_)
                  obtain ⟨T697, J698, rfl, R701, f702⟩ := b694
                  have I699 := I680.call J698 (tm_sub (by decide)) (Or.inl rfl)
                  have t703 := J698.up t686
                  have := (rv_c I680 J698 (I680.up h_o0) (k := 22) rfl)
                  have := (rv_c I680 J698 (I680.up h_o0) (k := 24) rfl)
                  have := ra_call I680 J698 (I680.up h_o0) (k := 5) rfl rfl rfl 44
                  have := ra_call I680 J698 (I680.up h_o0) (k := 6) rfl rfl rfl 44
                  have E704 : rE M0 M695 o0 0 2 := E687.trans f702 (by decide) (yR.2 5 _ _ rfl 44).1 (by decide) (by decide)
                  have := f702.w
                  have := f702.w2
                  have := ra_call I680 J698 (I680.up h_o0) (k := 7) rfl rfl rfl ((880 + ra M0 o0 6 44).toNat)
                  have := ra_call I680 J698 (I680.up h_o0) (k := 10) rfl rfl rfl ((880 + ra M0 o0 6 44).toNat)
                  have := ra_call I680 J698 (I680.up h_o0) (k := 8) rfl rfl rfl ((880 + ra M0 o0 6 44).toNat)
                  have K705 : rK M0 M695 o0 ((880 + ra M0 o0 6 44).toNat) := K689.same (sA_c I680 J698 (I680.up h_o0) (by decide))
                  have K706 : nN M695 o0 := K690.same (sA_c I680 J698 (I680.up h_o0) (by decide)) (sF_c I680 J698 (I680.up h_o0) (by decide))
                  have q707 := J698.keep t686 (by decide) q691
                  have t708 := J698.up t692
                  have q709 := J698.keep t686 (by decide) q693
                  refine mv_aload_n d_TrustDeskModel_readClause_171 rfl rfl ?_
                  obtain ⟨a711, q710, t_a711⟩ := tm_atR I699 t703 (k := 12) rfl
                  refine tr_getK q710 d_TrustDeskModel_readClause_172 f_TrustDeskModel_41_13 ?_
                  refine mv_iload_n d_TrustDeskModel_readClause_175 rfl rfl ?_
                  refine mv_aload_n d_TrustDeskModel_readClause_176 rfl rfl ?_
                  obtain ⟨a713, q712, t_a713⟩ := tm_atR I699 t703 (k := 5) rfl
                  refine tr_getK q712 d_TrustDeskModel_readClause_177 f_TrustDeskModel_20_13 ?_
                  refine mv_bipush (v := 44) d_TrustDeskModel_readClause_180 (by decide) ?_
                  refine tr_ialdR (o := o0) (k := 5) I699 q712 t_a713 (by decide) d_TrustDeskModel_readClause_182 (by unfold vp_in; decide) (fun v714 e715 => ?_)
                  have := R701.a (k := 5) rfl (44 : Int32).toNatClampNeg
                  have : v714.toInt = ra M695 o0 5 44 := e715
                  refine tr_iastR (k := 12) I699 R701 (I699.up h_o0) q710 t_a711 (by decide) (by decide) (fun lo hi h => by cases h; have := R701.1 15 _ _ rfl; have := R701.1 16 _ _ rfl; have := R701.1 19 _ _ rfl; have := E704.f yS; exact ⟨by show (0 : Int) ≤ v714.toInt; omega, by show v714.toInt ≤ (400 : Int); omega⟩) (Or.inl (by decide)) d_TrustDeskModel_readClause_183 (vp_in_iff.mpr (by have := R701.1 15 _ _ rfl; have := R701.1 16 _ _ rfl; have := R701.1 19 _ _ rfl; have := E704.f yS; omega)) (fun M716 I717 K718 R719 E720 A721 V722 => ?_)
                  have := V722 15
                  have := V722 16
                  have := V722 17
                  have := V722 19
                  have := V722 22
                  have := V722 24
                  have := A721 5 (by decide) rfl 44
                  have := A721 6 (by decide) rfl 44
                  have E723 : rE M0 M716 o0 0 2 := E704.same (fun k _ _ => V722 k) (fun k h1 h2 => A721 k (by omega) (by rcases (show k = 4 ∨ k = 5 by omega) with rfl | rfl <;> rfl))
                  have := A721 7 (by decide) rfl ((880 + ra M0 o0 6 44).toNat)
                  have := A721 10 (by decide) rfl ((880 + ra M0 o0 6 44).toNat)
                  have := A721 8 (by decide) rfl ((880 + ra M0 o0 6 44).toNat)
                  have h724 : (880 + ra M0 o0 6 44).toNat = v549.toNatClampNeg := by have := mz_nat9 (i := v549) (by have := R701.1 15 _ _ rfl; have := R701.1 16 _ _ rfl; have := R701.1 19 _ _ rfl; have := E704.f yS; omega); have := R701.1 15 _ _ rfl; have := R701.1 16 _ _ rfl; have := R701.1 19 _ _ rfl; have := E704.f yS; omega
                  have : ra M716 o0 12 ((880 + ra M0 o0 6 44).toNat) = v714.toInt := (E720 _).trans (if_pos h724)
                  have K725 : rK M0 M716 o0 ((880 + ra M0 o0 6 44).toNat) := K705.st A721 E720 (by have := mz_nat9 (i := v549) (by have := R701.1 15 _ _ rfl; have := R701.1 16 _ _ rfl; have := R701.1 19 _ _ rfl; have := E704.f yS; omega); have := R701.1 15 _ _ rfl; have := R701.1 16 _ _ rfl; have := R701.1 19 _ _ rfl; have := E704.f yS; omega)
                  have K726 : nN M716 o0 := K706.same (sA_a A721 (by decide)) (sF_a V722)
                  exact mv_vret d_TrustDeskModel_readClause_184 rfl ⟨_, I717, rfl, R719, (rW.of E723.1 (fun w9 => (by have := R719.1 15 _ _ rfl; have := R719.1 16 _ _ rfl; have := R719.1 19 _ _ rfl; have := E723.f yS; omega)) (fun w9 => rG.step yG yR E723 w9 K725 (by have := yR.2 6 _ _ rfl 44; omega) (by have := R719.1 15 _ _ rfl; have := R719.1 16 _ _ rfl; have := R719.1 19 _ _ rfl; have := E723.f yS; omega) (by have := R719.1 15 _ _ rfl; have := R719.1 16 _ _ rfl; have := R719.1 19 _ _ rfl; have := E723.f yS; omega) (fun h9 => by exfalso; have := R719.1 15 _ _ rfl; have := R719.1 16 _ _ rfl; have := R719.1 19 _ _ rfl; have := E723.f yS; omega) (fun h9 => (by have := R719.1 15 _ _ rfl; have := R719.1 16 _ _ rfl; have := R719.1 19 _ _ rfl; have := E723.f yS; omega)) (by have := R719.1 15 _ _ rfl; have := R719.1 16 _ _ rfl; have := R719.1 19 _ _ rfl; have := E723.f yS; omega) K726)), (rO.of E723 K725 (by have := yR.2 6 _ _ rfl 44; omega)), (by have := R719.1 15 _ _ rfl; have := R719.1 16 _ _ rfl; have := R719.1 19 _ _ rfl; have := E723.f yS; omega), (by have := R719.1 15 _ _ rfl; have := R719.1 16 _ _ rfl; have := R719.1 19 _ _ rfl; have := E723.f yS; omega), (fun h9 _ => absurd h9 (f16 (by have := R719.1 15 _ _ rfl; have := R719.1 16 _ _ rfl; have := R719.1 19 _ _ rfl; have := E723.f yS; omega)))⟩
            · refine mv_bipush (v := 8) d_TrustDeskModel_readClause_91 (by decide) ?_
              refine mv_goto (tgt := 107) d_TrustDeskModel_readClause_93 (by decide) ?_
              obtain ⟨_, b733, -⟩ := I392.1 _ _ t399
              have : (8 : Int32).toInt = 8 := by decide
              refine mv_callV (kc' := 0) (ks' := 0) (As := [.int 8]) (st9 := [.int 8, .ref o0]) d_TrustDeskModel_readClause_107 lV_TrustDeskModel_342 b733 rfl (tc_TrustDeskModel_begin_x (d := (d + 23)) (x9 := x9) (o0 := o0) (x1 := 8) t399 R397 E400.1 (by have := R397.1 15 _ _ rfl; have := R397.1 16 _ _ rfl; have := R397.1 19 _ _ rfl; have := E400.f yS; omega) (by have := R397.1 15 _ _ rfl; have := R397.1 16 _ _ rfl; have := R397.1 19 _ _ rfl; have := E400.f yS; omega) (by have := R397.1 15 _ _ rfl; have := R397.1 16 _ _ rfl; have := R397.1 19 _ _ rfl; have := E400.f yS; omega) (by have := R397.1 15 _ _ rfl; have := R397.1 16 _ _ rfl; have := R397.1 19 _ _ rfl; have := E400.f yS; omega) I392.start) rfl (Nat.le_of_ble_eq_true rfl) (Nat.le_of_ble_eq_true rfl) (Nat.le_of_ble_eq_true rfl) (hst := rfl) (fun b727r M728 n729 b727 => ?_)
              obtain ⟨T730, J731, v734, rfl, R735, f736, f737, f738, f739, f740, f741⟩ := b727
              have I732 := I392.call J731 (tm_sub (by decide)) (Or.inl rfl)
              have t742 := J731.up t399
              have := (rv_c I392 J731 (I392.up h_o0) (k := 19) rfl)
              have := (rv_c I392 J731 (I392.up h_o0) (k := 22) rfl)
              have := (rv_c I392 J731 (I392.up h_o0) (k := 24) rfl)
              have := ra_call I392 J731 (I392.up h_o0) (k := 5) rfl rfl rfl 44
              have E743 : rE M0 M728 o0 0 1 := E400.trans f736 (by decide) (yR.2 5 _ _ rfl 44).1 (by decide) (by decide)
              have := f736.w
              have := f736.w2
              have h744 : (880 + ra M388 o0 6 44).toNat = (880 + ra M0 o0 6 44).toNat := by omega
              rw [h744] at f739 f740 f741
              have K745 : rK M0 M728 o0 ((880 + ra M0 o0 6 44).toNat) := K401.trans f741
              have K746 : nN M728 o0 := K402.same (sA_c I392 J731 (I392.up h_o0) (by decide)) (sF_c I392 J731 (I392.up h_o0) (by decide))
              have q747 := J731.keep t399 (by decide) q403
              have t748 := J731.up t404
              have q749 := J731.keep t399 (by decide) q405
              have q750 := J731.keep t399 (by decide) q406
              refine mv_istore_n (lv' := [(3, .int v734), (2, .int v394), (1, .int v10), (0, .ref o0)]) d_TrustDeskModel_readClause_110 rfl (by decide) rfl ?_
              refine mv_iload_n d_TrustDeskModel_readClause_111 rfl rfl ?_
              have := mz_hi v10
              refine mv_if_eqZ (tgt := 123) (a := v10.toInt) d_TrustDeskModel_readClause_112 (by decide) rfl (fun b751 => ?_) (fun b751 => ?_)
              · refine mv_iload_n d_TrustDeskModel_readClause_123 rfl rfl ?_
                have := mz_hi v394
                refine mv_if_eqZ (tgt := 135) (a := v394.toInt) d_TrustDeskModel_readClause_124 (by decide) rfl (fun b752 => ?_) (fun b752 => ?_)
                · refine mv_aload_n d_TrustDeskModel_readClause_135 rfl rfl ?_
                  obtain ⟨a754, q753, t_a754⟩ := tm_atR I732 t742 (k := 8) rfl
                  refine tr_getK q753 d_TrustDeskModel_readClause_136 f_TrustDeskModel_29_13 ?_
                  refine mv_iload_n d_TrustDeskModel_readClause_139 rfl rfl ?_
                  refine mv_aload_n d_TrustDeskModel_readClause_140 rfl rfl ?_
                  refine mv_iconst (v := 1) d_TrustDeskModel_readClause_141 (by decide) ?_
                  refine mv_bipush (v := 7) d_TrustDeskModel_readClause_142 (by decide) ?_
                  obtain ⟨_, b761, -⟩ := I732.1 _ _ t742
                  have : (1 : Int32).toInt = 1 := by decide
                  have : (7 : Int32).toInt = 7 := by decide
                  refine mv_callV (kc' := 0) (ks' := 0) (As := [.int 1, .int 7]) (st9 := [.int 7, .int 1, .ref o0, .int v734, .ref a754]) d_TrustDeskModel_readClause_144 lV_TrustDeskModel_317 b761 rfl (tc_TrustDeskModel_number_x (d := (d + 23)) (x9 := x9) (o0 := o0) (x1 := 1) (x2 := 7) t742 R735 E743.1 (by have := R735.1 15 _ _ rfl; have := R735.1 16 _ _ rfl; have := R735.1 19 _ _ rfl; have := E743.f yS; omega) I732.start) rfl (Nat.le_of_ble_eq_true rfl) (Nat.le_of_ble_eq_true rfl) (Nat.le_of_ble_eq_true rfl) (hst := rfl) (fun b755r M756 n757 b755 => ?_)
                  obtain ⟨T758, J759, v762, rfl, R763, f764, f765⟩ := b755
                  have I760 := I732.call J759 (tm_sub (by decide)) (Or.inl rfl)
                  have t766 := J759.up t742
                  have t767 := J759.up t_a754
                  have := (rv_c I732 J759 (I732.up h_o0) (k := 22) rfl)
                  have := (rv_c I732 J759 (I732.up h_o0) (k := 24) rfl)
                  have := ra_call I732 J759 (I732.up h_o0) (k := 5) rfl rfl rfl 44
                  have := ra_call I732 J759 (I732.up h_o0) (k := 6) rfl rfl rfl 44
                  have E768 : rE M0 M756 o0 0 2 := E743.trans f764 (by decide) (yR.2 5 _ _ rfl 44).1 (by decide) (by decide)
                  have := f764.w
                  have := f764.w2
                  have := ra_call I732 J759 (I732.up h_o0) (k := 7) rfl rfl rfl ((880 + ra M0 o0 6 44).toNat)
                  have := ra_call I732 J759 (I732.up h_o0) (k := 10) rfl rfl rfl ((880 + ra M0 o0 6 44).toNat)
                  have K769 : rK M0 M756 o0 ((880 + ra M0 o0 6 44).toNat) := K745.same (sA_c I732 J759 (I732.up h_o0) (by decide))
                  have K770 : nN M756 o0 := K746.same (sA_c I732 J759 (I732.up h_o0) (by decide)) (sF_c I732 J759 (I732.up h_o0) (by decide))
                  have q771 := J759.keep t742 (by decide) q747
                  have t772 := J759.up t748
                  have q773 := J759.keep t742 (by decide) q749
                  have q774 := J759.keep t742 (by decide) q753
                  refine tr_iastR (k := 8) I760 R763 (I760.up h_o0) q774 t767 (by decide) (by decide) (fun lo hi h => by cases h; have := R763.1 15 _ _ rfl; have := R763.1 16 _ _ rfl; have := R763.1 19 _ _ rfl; have := E768.f yS; exact ⟨by show ((-1) : Int) ≤ v762.toInt; omega, by show v762.toInt ≤ (720 : Int); omega⟩) (Or.inl (by decide)) d_TrustDeskModel_readClause_147 (vp_in_iff.mpr (by have := R763.1 15 _ _ rfl; have := R763.1 16 _ _ rfl; have := R763.1 19 _ _ rfl; have := E768.f yS; omega)) (fun M775 I776 K777 R778 E779 A780 V781 => ?_)
                  have := V781 15
                  have := V781 16
                  have := V781 17
                  have := V781 19
                  have := V781 22
                  have := V781 24
                  have := A780 5 (by decide) rfl 44
                  have := A780 6 (by decide) rfl 44
                  have E782 : rE M0 M775 o0 0 2 := E768.same (fun k _ _ => V781 k) (fun k h1 h2 => A780 k (by omega) (by rcases (show k = 4 ∨ k = 5 by omega) with rfl | rfl <;> rfl))
                  have := A780 7 (by decide) rfl ((880 + ra M0 o0 6 44).toNat)
                  have := A780 10 (by decide) rfl ((880 + ra M0 o0 6 44).toNat)
                  have h783 : (880 + ra M0 o0 6 44).toNat = v734.toNatClampNeg := by have := mz_nat9 (i := v734) (by have := R763.1 15 _ _ rfl; have := R763.1 16 _ _ rfl; have := R763.1 19 _ _ rfl; have := E768.f yS; omega); have := R763.1 15 _ _ rfl; have := R763.1 16 _ _ rfl; have := R763.1 19 _ _ rfl; have := E768.f yS; omega
                  have : ra M775 o0 8 ((880 + ra M0 o0 6 44).toNat) = v762.toInt := (E779 _).trans (if_pos h783)
                  have K784 : rK M0 M775 o0 ((880 + ra M0 o0 6 44).toNat) := K769.st A780 E779 (by have := mz_nat9 (i := v734) (by have := R763.1 15 _ _ rfl; have := R763.1 16 _ _ rfl; have := R763.1 19 _ _ rfl; have := E768.f yS; omega); have := R763.1 15 _ _ rfl; have := R763.1 16 _ _ rfl; have := R763.1 19 _ _ rfl; have := E768.f yS; omega)
                  have K785 : nN M775 o0 := K770.same (sA_a A780 (by decide)) (sF_a V781)
                  refine mv_aload_n d_TrustDeskModel_readClause_148 rfl rfl ?_
                  obtain ⟨a787, q786, t_a787⟩ := tm_atR I776 t766 (k := 9) rfl
                  refine tr_getK q786 d_TrustDeskModel_readClause_149 f_TrustDeskModel_32_13 ?_
                  refine mv_iload_n d_TrustDeskModel_readClause_152 rfl rfl ?_
                  refine mv_aload_n d_TrustDeskModel_readClause_153 rfl rfl ?_
                  refine mv_iconst (v := 1) d_TrustDeskModel_readClause_154 (by decide) ?_
                  refine mv_aload_n d_TrustDeskModel_readClause_155 rfl rfl ?_
                  refine tr_getK (k := 8) (K777 _ 13 8 _ q774) d_TrustDeskModel_readClause_156 f_TrustDeskModel_29_13 ?_
                  refine mv_iload_n d_TrustDeskModel_readClause_159 rfl rfl ?_
                  refine tr_ialdR (o := o0) (k := 8) I776 (K777 _ 13 8 _ q774) t767 (by decide) d_TrustDeskModel_readClause_160 (vp_in_iff.mpr (by have := R778.1 15 _ _ rfl; have := R778.1 16 _ _ rfl; have := R778.1 19 _ _ rfl; have := E782.f yS; omega)) (fun v788 e789 => ?_)
                  have := R778.a (k := 8) rfl (v734 : Int32).toNatClampNeg
                  have h790 : (880 + ra M0 o0 6 44).toNat = v734.toNatClampNeg := by have := mz_nat9 (i := v734) (by have := R778.1 15 _ _ rfl; have := R778.1 16 _ _ rfl; have := R778.1 19 _ _ rfl; have := E782.f yS; omega); have := R778.1 15 _ _ rfl; have := R778.1 16 _ _ rfl; have := R778.1 19 _ _ rfl; have := E782.f yS; omega
                  have : v788.toInt = ra M775 o0 8 ((880 + ra M0 o0 6 44).toNat) := by rw [e789, h790]
                  obtain ⟨_, b797, -⟩ := I776.1 _ _ t766
                  have : (1 : Int32).toInt = 1 := by decide
                  refine mv_callV (kc' := 0) (ks' := 0) (As := [.int 1, .int v788]) (st9 := [.int v788, .int 1, .ref o0, .int v734, .ref a787]) d_TrustDeskModel_readClause_161 lV_TrustDeskModel_317 b797 rfl (tc_TrustDeskModel_number_x (d := (d + 23)) (x9 := x9) (o0 := o0) (x1 := 1) (x2 := v788) t766 R778 E782.1 (by have := R778.1 15 _ _ rfl; have := R778.1 16 _ _ rfl; have := R778.1 19 _ _ rfl; have := E782.f yS; omega) I776.start) rfl (Nat.le_of_ble_eq_true rfl) (Nat.le_of_ble_eq_true rfl) (Nat.le_of_ble_eq_true rfl) (hst := rfl) (fun b791r M792 n793 b791 => ?_)
                  obtain ⟨T794, J795, v798, rfl, R799, f800, f801⟩ := b791
                  have I796 := I776.call J795 (tm_sub (by decide)) (Or.inl rfl)
                  have t802 := J795.up t766
                  have t803 := J795.up t_a787
                  have := (rv_c I776 J795 (I776.up h_o0) (k := 22) rfl)
                  have := (rv_c I776 J795 (I776.up h_o0) (k := 24) rfl)
                  have := ra_call I776 J795 (I776.up h_o0) (k := 5) rfl rfl rfl 44
                  have := ra_call I776 J795 (I776.up h_o0) (k := 6) rfl rfl rfl 44
                  have E804 : rE M0 M792 o0 0 3 := E782.trans f800 (by decide) (yR.2 5 _ _ rfl 44).1 (by decide) (by decide)
                  have := f800.w
                  have := f800.w2
                  have := ra_call I776 J795 (I776.up h_o0) (k := 7) rfl rfl rfl ((880 + ra M0 o0 6 44).toNat)
                  have := ra_call I776 J795 (I776.up h_o0) (k := 10) rfl rfl rfl ((880 + ra M0 o0 6 44).toNat)
                  have := ra_call I776 J795 (I776.up h_o0) (k := 8) rfl rfl rfl ((880 + ra M0 o0 6 44).toNat)
                  have K805 : rK M0 M792 o0 ((880 + ra M0 o0 6 44).toNat) := K784.same (sA_c I776 J795 (I776.up h_o0) (by decide))
                  have K806 : nN M792 o0 := K785.same (sA_c I776 J795 (I776.up h_o0) (by decide)) (sF_c I776 J795 (I776.up h_o0) (by decide))
                  have q807 := J795.keep t766 (by decide) (K777 _ 13 6 _ q771)
                  have t808 := J795.up t772
                  have q809 := J795.keep t766 (by decide) (K777 _ 13 24 _ q773)
                  have q810 := J795.keep t766 (by decide) (K777 _ 13 8 _ q774)
                  have t811 := J795.up t767
                  have q812 := J795.keep t766 (by decide) q786
                  refine tr_iastR (k := 9) I796 R799 (I796.up h_o0) q812 t803 (by decide) (by decide) (fun lo hi h => by cases h) (Or.inl (by decide)) d_TrustDeskModel_readClause_164 (vp_in_iff.mpr (by have := R799.1 15 _ _ rfl; have := R799.1 16 _ _ rfl; have := R799.1 19 _ _ rfl; have := E804.f yS; omega)) (fun M813 I814 K815 R816 E817 A818 V819 => ?_)
                  have := V819 15
                  have := V819 16
                  have := V819 17
                  have := V819 19
                  have := V819 22
                  have := V819 24
                  have := A818 5 (by decide) rfl 44
                  have := A818 6 (by decide) rfl 44
                  have E820 : rE M0 M813 o0 0 3 := E804.same (fun k _ _ => V819 k) (fun k h1 h2 => A818 k (by omega) (by rcases (show k = 4 ∨ k = 5 by omega) with rfl | rfl <;> rfl))
                  have := A818 7 (by decide) rfl ((880 + ra M0 o0 6 44).toNat)
                  have := A818 10 (by decide) rfl ((880 + ra M0 o0 6 44).toNat)
                  have := A818 8 (by decide) rfl ((880 + ra M0 o0 6 44).toNat)
                  have K821 : rK M0 M813 o0 ((880 + ra M0 o0 6 44).toNat) := K805.same (sA_a A818 (by decide))
                  have K822 : nN M813 o0 := K806.same (sA_a A818 (by decide)) (sF_a V819)
                  refine mv_aload_n d_TrustDeskModel_readClause_165 rfl rfl ?_
                  refine mv_bipush (v := 59) d_TrustDeskModel_readClause_166 (by decide) ?_
                  obtain ⟨_, b829, -⟩ := I814.1 _ _ t802
                  have : (59 : Int32).toInt = 59 := by decide
                  refine mv_callV (kc' := 0) (ks' := 0) (As := [.int 59]) (st9 := [.int 59, .ref o0]) d_TrustDeskModel_readClause_168 lV_TrustDeskModel_291 b829 rfl (tc_TrustDeskModel_wantSign_x (d := (d + 23)) (x9 := x9) (o0 := o0) (x1 := 59) t802 R816 E820.1 (by have := R816.1 15 _ _ rfl; have := R816.1 16 _ _ rfl; have := R816.1 19 _ _ rfl; have := E820.f yS; omega) I814.start) rfl (Nat.le_of_ble_eq_true rfl) (Nat.le_of_ble_eq_true rfl) (Nat.le_of_ble_eq_true rfl) (hst := rfl) (fun b823r M824 n825 b823 => ?_)
                  obtain ⟨T826, J827, rfl, R830, f831⟩ := b823
                  have I828 := I814.call J827 (tm_sub (by decide)) (Or.inl rfl)
                  have t832 := J827.up t802
                  have := (rv_c I814 J827 (I814.up h_o0) (k := 22) rfl)
                  have := (rv_c I814 J827 (I814.up h_o0) (k := 24) rfl)
                  have := ra_call I814 J827 (I814.up h_o0) (k := 5) rfl rfl rfl 44
                  have := ra_call I814 J827 (I814.up h_o0) (k := 6) rfl rfl rfl 44
                  have E833 : rE M0 M824 o0 0 4 := E820.trans f831 (by decide) (yR.2 5 _ _ rfl 44).1 (by decide) (by decide)
                  have := f831.w
                  have := f831.w2
                  have := ra_call I814 J827 (I814.up h_o0) (k := 7) rfl rfl rfl ((880 + ra M0 o0 6 44).toNat)
                  have := ra_call I814 J827 (I814.up h_o0) (k := 10) rfl rfl rfl ((880 + ra M0 o0 6 44).toNat)
                  have := ra_call I814 J827 (I814.up h_o0) (k := 8) rfl rfl rfl ((880 + ra M0 o0 6 44).toNat)
                  have K834 : rK M0 M824 o0 ((880 + ra M0 o0 6 44).toNat) := K821.same (sA_c I814 J827 (I814.up h_o0) (by decide))
                  have K835 : nN M824 o0 := K822.same (sA_c I814 J827 (I814.up h_o0) (by decide)) (sF_c I814 J827 (I814.up h_o0) (by decide))
                  have q836 := J827.keep t802 (by decide) (K815 _ 13 6 _ q807)
                  have t837 := J827.up t808
                  have q838 := J827.keep t802 (by decide) (K815 _ 13 24 _ q809)
                  have q839 := J827.keep t802 (by decide) (K815 _ 13 8 _ q810)
                  have t840 := J827.up t811
                  have q841 := J827.keep t802 (by decide) (K815 _ 13 9 _ q812)
                  have t842 := J827.up t803
                  refine mv_aload_n d_TrustDeskModel_readClause_171 rfl rfl ?_
                  obtain ⟨a844, q843, t_a844⟩ := tm_atR I828 t832 (k := 12) rfl
                  refine tr_getK q843 d_TrustDeskModel_readClause_172 f_TrustDeskModel_41_13 ?_
                  refine mv_iload_n d_TrustDeskModel_readClause_175 rfl rfl ?_
                  refine mv_aload_n d_TrustDeskModel_readClause_176 rfl rfl ?_
                  obtain ⟨a846, q845, t_a846⟩ := tm_atR I828 t832 (k := 5) rfl
                  refine tr_getK q845 d_TrustDeskModel_readClause_177 f_TrustDeskModel_20_13 ?_
                  refine mv_bipush (v := 44) d_TrustDeskModel_readClause_180 (by decide) ?_
                  refine tr_ialdR (o := o0) (k := 5) I828 q845 t_a846 (by decide) d_TrustDeskModel_readClause_182 (by unfold vp_in; decide) (fun v847 e848 => ?_)
                  have := R830.a (k := 5) rfl (44 : Int32).toNatClampNeg
                  have : v847.toInt = ra M824 o0 5 44 := e848
                  refine tr_iastR (k := 12) I828 R830 (I828.up h_o0) q843 t_a844 (by decide) (by decide) (fun lo hi h => by cases h; have := R830.1 15 _ _ rfl; have := R830.1 16 _ _ rfl; have := R830.1 19 _ _ rfl; have := E833.f yS; exact ⟨by show (0 : Int) ≤ v847.toInt; omega, by show v847.toInt ≤ (400 : Int); omega⟩) (Or.inl (by decide)) d_TrustDeskModel_readClause_183 (vp_in_iff.mpr (by have := R830.1 15 _ _ rfl; have := R830.1 16 _ _ rfl; have := R830.1 19 _ _ rfl; have := E833.f yS; omega)) (fun M849 I850 K851 R852 E853 A854 V855 => ?_)
                  have := V855 15
                  have := V855 16
                  have := V855 17
                  have := V855 19
                  have := V855 22
                  have := V855 24
                  have := A854 5 (by decide) rfl 44
                  have := A854 6 (by decide) rfl 44
                  have E856 : rE M0 M849 o0 0 4 := E833.same (fun k _ _ => V855 k) (fun k h1 h2 => A854 k (by omega) (by rcases (show k = 4 ∨ k = 5 by omega) with rfl | rfl <;> rfl))
                  have := A854 7 (by decide) rfl ((880 + ra M0 o0 6 44).toNat)
                  have := A854 10 (by decide) rfl ((880 + ra M0 o0 6 44).toNat)
                  have := A854 8 (by decide) rfl ((880 + ra M0 o0 6 44).toNat)
                  have h857 : (880 + ra M0 o0 6 44).toNat = v734.toNatClampNeg := by have := mz_nat9 (i := v734) (by have := R830.1 15 _ _ rfl; have := R830.1 16 _ _ rfl; have := R830.1 19 _ _ rfl; have := E833.f yS; omega); have := R830.1 15 _ _ rfl; have := R830.1 16 _ _ rfl; have := R830.1 19 _ _ rfl; have := E833.f yS; omega
                  have : ra M849 o0 12 ((880 + ra M0 o0 6 44).toNat) = v847.toInt := (E853 _).trans (if_pos h857)
                  have K858 : rK M0 M849 o0 ((880 + ra M0 o0 6 44).toNat) := K834.st A854 E853 (by have := mz_nat9 (i := v734) (by have := R830.1 15 _ _ rfl; have := R830.1 16 _ _ rfl; have := R830.1 19 _ _ rfl; have := E833.f yS; omega); have := R830.1 15 _ _ rfl; have := R830.1 16 _ _ rfl; have := R830.1 19 _ _ rfl; have := E833.f yS; omega)
                  have K859 : nN M849 o0 := K835.same (sA_a A854 (by decide)) (sF_a V855)
                  exact mv_vret d_TrustDeskModel_readClause_184 rfl ⟨_, I850, rfl, R852, (rW.of E856.1 (fun w9 => (by have := R852.1 15 _ _ rfl; have := R852.1 16 _ _ rfl; have := R852.1 19 _ _ rfl; have := E856.f yS; omega)) (fun w9 => rG.step yG yR E856 w9 K858 (by have := yR.2 6 _ _ rfl 44; omega) (by have := R852.1 15 _ _ rfl; have := R852.1 16 _ _ rfl; have := R852.1 19 _ _ rfl; have := E856.f yS; omega) (by have := R852.1 15 _ _ rfl; have := R852.1 16 _ _ rfl; have := R852.1 19 _ _ rfl; have := E856.f yS; omega) (fun h9 => by exfalso; have := R852.1 15 _ _ rfl; have := R852.1 16 _ _ rfl; have := R852.1 19 _ _ rfl; have := E856.f yS; omega) (fun h9 => (by have := R852.1 15 _ _ rfl; have := R852.1 16 _ _ rfl; have := R852.1 19 _ _ rfl; have := E856.f yS; omega)) (by have := R852.1 15 _ _ rfl; have := R852.1 16 _ _ rfl; have := R852.1 19 _ _ rfl; have := E856.f yS; omega) K859)), (rO.of E856 K858 (by have := yR.2 6 _ _ rfl 44; omega)), (by have := R852.1 15 _ _ rfl; have := R852.1 16 _ _ rfl; have := R852.1 19 _ _ rfl; have := E856.f yS; omega), (by have := R852.1 15 _ _ rfl; have := R852.1 16 _ _ rfl; have := R852.1 19 _ _ rfl; have := E856.f yS; omega), (fun h9 _ => absurd h9 (f16 (by have := R852.1 15 _ _ rfl; have := R852.1 16 _ _ rfl; have := R852.1 19 _ _ rfl; have := E856.f yS; omega)))⟩
                · refine mv_aload_n d_TrustDeskModel_readClause_127 rfl rfl ?_
                  refine mv_iload_n d_TrustDeskModel_readClause_128 rfl rfl ?_
                  obtain ⟨_, b866, -⟩ := I732.1 _ _ t742
                  refine mv_callV (kc' := 0) (ks' := 0) (As := [.int v734]) (st9 := [.int v734, .ref o0]) d_TrustDeskModel_readClause_129 lV_TrustDeskModel_348 b866 rfl (tc_TrustDeskModel_readMarks_x (d := (d + 22)) (x9 := x9) (o0 := o0) (x1 := v734) t742 R735 E743.1 (by have := R735.1 15 _ _ rfl; have := R735.1 16 _ _ rfl; have := R735.1 19 _ _ rfl; have := E743.f yS; omega) (by have := R735.1 15 _ _ rfl; have := R735.1 16 _ _ rfl; have := R735.1 19 _ _ rfl; have := E743.f yS; omega) I732.start) rfl (Nat.le_of_ble_eq_true rfl) (Nat.le_of_ble_eq_true rfl) (Nat.le_of_ble_eq_true rfl) (hst := rfl) (fun b860r M861 n862 b860 => ?_)
                  obtain ⟨T863, J864, rfl, R867, f868, f869, f870⟩ := b860
                  have I865 := I732.call J864 (tm_sub (by decide)) (Or.inl rfl)
                  have t871 := J864.up t742
                  have := (rv_c I732 J864 (I732.up h_o0) (k := 22) rfl)
                  have := (rv_c I732 J864 (I732.up h_o0) (k := 24) rfl)
                  have := ra_call I732 J864 (I732.up h_o0) (k := 5) rfl rfl rfl 44
                  have := ra_call I732 J864 (I732.up h_o0) (k := 6) rfl rfl rfl 44
                  have E872 : rE M0 M861 o0 0 1 := E743.trans f868 (by decide) (yR.2 5 _ _ rfl 44).1 (by decide) (by decide)
                  have := f868.w
                  have := f868.w2
                  have := ra_call I732 J864 (I732.up h_o0) (k := 7) rfl rfl rfl ((880 + ra M0 o0 6 44).toNat)
                  have := ra_call I732 J864 (I732.up h_o0) (k := 10) rfl rfl rfl ((880 + ra M0 o0 6 44).toNat)
                  have h873 : v734.toNatClampNeg = (880 + ra M0 o0 6 44).toNat := by have := mz_nat9 (i := v734) (by have := R735.1 15 _ _ rfl; have := R735.1 16 _ _ rfl; have := R735.1 19 _ _ rfl; have := E743.f yS; omega); have := R735.1 15 _ _ rfl; have := R735.1 16 _ _ rfl; have := R735.1 19 _ _ rfl; have := E743.f yS; omega
                  rw [h873] at f869 f870
                  have K874 : rK M0 M861 o0 ((880 + ra M0 o0 6 44).toNat) := K745.one8 (sA_c I732 J864 (I732.up h_o0) (by decide)) f869
                  have K875 : nN M861 o0 := K746.same (sA_c I732 J864 (I732.up h_o0) (by decide)) (sF_c I732 J864 (I732.up h_o0) (by decide))
                  have q876 := J864.keep t742 (by decide) q747
                  have t877 := J864.up t748
                  have q878 := J864.keep t742 (by decide) q749
                  refine mv_goto (tgt := 165) d_TrustDeskModel_readClause_132 (by decide) ?_
                  refine mv_aload_n d_TrustDeskModel_readClause_165 rfl rfl ?_
                  refine mv_bipush (v := 59) d_TrustDeskModel_readClause_166 (by decide) ?_
                  obtain ⟨_, b885, -⟩ := I865.1 _ _ t871
                  have : (59 : Int32).toInt = 59 := by decide
                  refine mv_callV (kc' := 0) (ks' := 0) (As := [.int 59]) (st9 := [.int 59, .ref o0]) d_TrustDeskModel_readClause_168 lV_TrustDeskModel_291 b885 rfl (tc_TrustDeskModel_wantSign_x (d := (d + 23)) (x9 := x9) (o0 := o0) (x1 := 59) t871 R867 E872.1 (by have := R867.1 15 _ _ rfl; have := R867.1 16 _ _ rfl; have := R867.1 19 _ _ rfl; have := E872.f yS; omega) I865.start) rfl (Nat.le_of_ble_eq_true rfl) (Nat.le_of_ble_eq_true rfl) (Nat.le_of_ble_eq_true rfl) (hst := rfl) (fun b879r M880 n881 b879 => ?_)
                  obtain ⟨T882, J883, rfl, R886, f887⟩ := b879
                  have I884 := I865.call J883 (tm_sub (by decide)) (Or.inl rfl)
                  have t888 := J883.up t871
                  have := (rv_c I865 J883 (I865.up h_o0) (k := 22) rfl)
                  have := (rv_c I865 J883 (I865.up h_o0) (k := 24) rfl)
                  have := ra_call I865 J883 (I865.up h_o0) (k := 5) rfl rfl rfl 44
                  have := ra_call I865 J883 (I865.up h_o0) (k := 6) rfl rfl rfl 44
                  have E889 : rE M0 M880 o0 0 2 := E872.trans f887 (by decide) (yR.2 5 _ _ rfl 44).1 (by decide) (by decide)
                  have := f887.w
                  have := f887.w2
                  have := ra_call I865 J883 (I865.up h_o0) (k := 7) rfl rfl rfl ((880 + ra M0 o0 6 44).toNat)
                  have := ra_call I865 J883 (I865.up h_o0) (k := 10) rfl rfl rfl ((880 + ra M0 o0 6 44).toNat)
                  have := ra_call I865 J883 (I865.up h_o0) (k := 8) rfl rfl rfl ((880 + ra M0 o0 6 44).toNat)
                  have K890 : rK M0 M880 o0 ((880 + ra M0 o0 6 44).toNat) := K874.same (sA_c I865 J883 (I865.up h_o0) (by decide))
                  have K891 : nN M880 o0 := K875.same (sA_c I865 J883 (I865.up h_o0) (by decide)) (sF_c I865 J883 (I865.up h_o0) (by decide))
                  have q892 := J883.keep t871 (by decide) q876
                  have t893 := J883.up t877
                  have q894 := J883.keep t871 (by decide) q878
                  refine mv_aload_n d_TrustDeskModel_readClause_171 rfl rfl ?_
                  obtain ⟨a896, q895, t_a896⟩ := tm_atR I884 t888 (k := 12) rfl
                  refine tr_getK q895 d_TrustDeskModel_readClause_172 f_TrustDeskModel_41_13 ?_
                  refine mv_iload_n d_TrustDeskModel_readClause_175 rfl rfl ?_
                  refine mv_aload_n d_TrustDeskModel_readClause_176 rfl rfl ?_
                  obtain ⟨a898, q897, t_a898⟩ := tm_atR I884 t888 (k := 5) rfl
                  refine tr_getK q897 d_TrustDeskModel_readClause_177 f_TrustDeskModel_20_13 ?_
                  refine mv_bipush (v := 44) d_TrustDeskModel_readClause_180 (by decide) ?_
                  refine tr_ialdR (o := o0) (k := 5) I884 q897 t_a898 (by decide) d_TrustDeskModel_readClause_182 (by unfold vp_in; decide) (fun v899 e900 => ?_)
                  have := R886.a (k := 5) rfl (44 : Int32).toNatClampNeg
                  have : v899.toInt = ra M880 o0 5 44 := e900
                  refine tr_iastR (k := 12) I884 R886 (I884.up h_o0) q895 t_a896 (by decide) (by decide) (fun lo hi h => by cases h; have := R886.1 15 _ _ rfl; have := R886.1 16 _ _ rfl; have := R886.1 19 _ _ rfl; have := E889.f yS; exact ⟨by show (0 : Int) ≤ v899.toInt; omega, by show v899.toInt ≤ (400 : Int); omega⟩) (Or.inl (by decide)) d_TrustDeskModel_readClause_183 (vp_in_iff.mpr (by have := R886.1 15 _ _ rfl; have := R886.1 16 _ _ rfl; have := R886.1 19 _ _ rfl; have := E889.f yS; omega)) (fun M901 I902 K903 R904 E905 A906 V907 => ?_)
                  have := V907 15
                  have := V907 16
                  have := V907 17
                  have := V907 19
                  have := V907 22
                  have := V907 24
                  have := A906 5 (by decide) rfl 44
                  have := A906 6 (by decide) rfl 44
                  have E908 : rE M0 M901 o0 0 2 := E889.same (fun k _ _ => V907 k) (fun k h1 h2 => A906 k (by omega) (by rcases (show k = 4 ∨ k = 5 by omega) with rfl | rfl <;> rfl))
                  have := A906 7 (by decide) rfl ((880 + ra M0 o0 6 44).toNat)
                  have := A906 10 (by decide) rfl ((880 + ra M0 o0 6 44).toNat)
                  have := A906 8 (by decide) rfl ((880 + ra M0 o0 6 44).toNat)
                  have h909 : (880 + ra M0 o0 6 44).toNat = v734.toNatClampNeg := by have := mz_nat9 (i := v734) (by have := R886.1 15 _ _ rfl; have := R886.1 16 _ _ rfl; have := R886.1 19 _ _ rfl; have := E889.f yS; omega); have := R886.1 15 _ _ rfl; have := R886.1 16 _ _ rfl; have := R886.1 19 _ _ rfl; have := E889.f yS; omega
                  have : ra M901 o0 12 ((880 + ra M0 o0 6 44).toNat) = v899.toInt := (E905 _).trans (if_pos h909)
                  have K910 : rK M0 M901 o0 ((880 + ra M0 o0 6 44).toNat) := K890.st A906 E905 (by have := mz_nat9 (i := v734) (by have := R886.1 15 _ _ rfl; have := R886.1 16 _ _ rfl; have := R886.1 19 _ _ rfl; have := E889.f yS; omega); have := R886.1 15 _ _ rfl; have := R886.1 16 _ _ rfl; have := R886.1 19 _ _ rfl; have := E889.f yS; omega)
                  have K911 : nN M901 o0 := K891.same (sA_a A906 (by decide)) (sF_a V907)
                  exact mv_vret d_TrustDeskModel_readClause_184 rfl ⟨_, I902, rfl, R904, (rW.of E908.1 (fun w9 => (by have := R904.1 15 _ _ rfl; have := R904.1 16 _ _ rfl; have := R904.1 19 _ _ rfl; have := E908.f yS; omega)) (fun w9 => rG.step yG yR E908 w9 K910 (by have := yR.2 6 _ _ rfl 44; omega) (by have := R904.1 15 _ _ rfl; have := R904.1 16 _ _ rfl; have := R904.1 19 _ _ rfl; have := E908.f yS; omega) (by have := R904.1 15 _ _ rfl; have := R904.1 16 _ _ rfl; have := R904.1 19 _ _ rfl; have := E908.f yS; omega) (fun h9 => by exfalso; have := R904.1 15 _ _ rfl; have := R904.1 16 _ _ rfl; have := R904.1 19 _ _ rfl; have := E908.f yS; omega) (fun h9 => (by have := R904.1 15 _ _ rfl; have := R904.1 16 _ _ rfl; have := R904.1 19 _ _ rfl; have := E908.f yS; omega)) (by have := R904.1 15 _ _ rfl; have := R904.1 16 _ _ rfl; have := R904.1 19 _ _ rfl; have := E908.f yS; omega) K911)), (rO.of E908 K910 (by have := yR.2 6 _ _ rfl 44; omega)), (by have := R904.1 15 _ _ rfl; have := R904.1 16 _ _ rfl; have := R904.1 19 _ _ rfl; have := E908.f yS; omega), (by have := R904.1 15 _ _ rfl; have := R904.1 16 _ _ rfl; have := R904.1 19 _ _ rfl; have := E908.f yS; omega), (fun h9 _ => absurd h9 (f16 (by have := R904.1 15 _ _ rfl; have := R904.1 16 _ _ rfl; have := R904.1 19 _ _ rfl; have := E908.f yS; omega)))⟩
              · refine mv_aload_n d_TrustDeskModel_readClause_115 rfl rfl ?_
                refine mv_iload_n d_TrustDeskModel_readClause_116 rfl rfl ?_
                obtain ⟨_, b912, -⟩ := I732.1 _ _ t742
                refine mv_callV (kc1 := 0) (ks1 := 0) (kc' := 0) (ks' := 0) (As := [.int v734]) (st9 := [.int v734, .ref o0]) d_TrustDeskModel_readClause_117 lV_TrustDeskModel_345 b912 rfl (mj_enter (by decide) (Nat.le_of_ble_eq_true rfl) ?_) rfl (Nat.le_of_ble_eq_true rfl) (Nat.le_of_ble_eq_true rfl) (Nat.le_of_ble_eq_true rfl) (hst := rfl) (fun _ _ _ h => h)
                refine mv_aload_n d_TrustDeskModel_readEnd_0 rfl rfl ?_
                obtain ⟨v914, q913⟩ := tm_atI I732 t742 (k := 17) rfl
                refine tr_getK q913 d_TrustDeskModel_readEnd_1 f_TrustDeskModel_198_13 ?_
                have := tm_rv q913
                refine mv_iconst (v := 3) d_TrustDeskModel_readEnd_4 (by decide) ?_
                have := mz_hi v914
                refine mv_icmp_neZ (tgt := 22) (a := v914.toInt) (b := 3) d_TrustDeskModel_readEnd_5 (by decide) rfl (by decide) (fun b915 => ?_) (fun b915 => ?_)
                · refine mv_aload_n d_TrustDeskModel_readEnd_22 rfl rfl ?_
                  refine mv_iconst (v := 1) d_TrustDeskModel_readEnd_23 (by decide) ?_
                  obtain ⟨_, b922, -⟩ := I732.1 _ _ t742
                  have : (1 : Int32).toInt = 1 := by decide
                  refine mv_callV (kc' := 0) (ks' := 0) (As := [.int 1]) (st9 := [.int 1, .ref o0]) d_TrustDeskModel_readEnd_24 lV_TrustDeskModel_240 b922 rfl (tc_TrustDeskModel_fails_x (d := (d + 24)) (x9 := x9) (o0 := o0) (x1 := 1) t742 R735 (by decide) I732.start) rfl (Nat.le_of_ble_eq_true rfl) (Nat.le_of_ble_eq_true rfl) (Nat.le_of_ble_eq_true rfl) (hst := rfl) (fun b916r M917 n918 b916 => ?_)
                  obtain ⟨T919, J920, rfl, R923, f924⟩ := b916
                  have I921 := I732.call J920 (tm_sub (by decide)) (Or.inl rfl)
                  have t925 := J920.up t742
                  have := (rv_c I732 J920 (I732.up h_o0) (k := 15) rfl)
                  have := (rv_c I732 J920 (I732.up h_o0) (k := 16) rfl)
                  have := (rv_c I732 J920 (I732.up h_o0) (k := 17) rfl)
                  have := (rv_c I732 J920 (I732.up h_o0) (k := 22) rfl)
                  have := (rv_c I732 J920 (I732.up h_o0) (k := 24) rfl)
                  have := ra_call I732 J920 (I732.up h_o0) (k := 5) rfl rfl rfl 44
                  have := ra_call I732 J920 (I732.up h_o0) (k := 6) rfl rfl rfl 44
                  have E926 : rE M0 M917 o0 0 1 := E743.fails (rE_hv I732 J920 (I732.up h_o0) 15 18 (by decide)) (rE_ha I732 J920 (I732.up h_o0) (by decide)) f924 0 1
                  have := ra_call I732 J920 (I732.up h_o0) (k := 7) rfl rfl rfl ((880 + ra M0 o0 6 44).toNat)
                  have := ra_call I732 J920 (I732.up h_o0) (k := 10) rfl rfl rfl ((880 + ra M0 o0 6 44).toNat)
                  have K927 : rK M0 M917 o0 ((880 + ra M0 o0 6 44).toNat) := K745.same (sA_c I732 J920 (I732.up h_o0) (by decide))
                  have K928 : nN M917 o0 := K746.same (sA_c I732 J920 (I732.up h_o0) (by decide)) (sF_c I732 J920 (I732.up h_o0) (by decide))
                  have q929 := J920.keep t742 (by decide) q747
                  have t930 := J920.up t748
                  have q931 := J920.keep t742 (by decide) q749
                  have q932 := J920.keep t742 (by decide) q913
                  refine mv_goto (tgt := 42) d_TrustDeskModel_readEnd_27 (by decide) ?_
                  refine mv_aload_n d_TrustDeskModel_readEnd_42 rfl rfl ?_
                  obtain ⟨_, b933, -⟩ := I921.1 _ _ t925
                  refine mv_callV (kc1 := 0) (ks1 := 0) (kc' := 0) (ks' := 0) (As := []) (st9 := [.ref o0]) d_TrustDeskModel_readEnd_43 lV_TrustDeskModel_230 b933 rfl (mj_enter (by decide) (Nat.le_of_ble_eq_true rfl) ?_) rfl (Nat.le_of_ble_eq_true rfl) (Nat.le_of_ble_eq_true rfl) (Nat.le_of_ble_eq_true rfl) (hst := rfl) (fun _ _ _ h => h)
                  refine mv_aload_n d_TrustDeskModel_isWell_0 rfl rfl ?_
                  obtain ⟨v935, q934⟩ := tm_atI I921 t925 (k := 19) rfl
                  refine tr_getK q934 d_TrustDeskModel_isWell_1 f_TrustDeskModel_224_13 ?_
                  have := R923.f (k := 19) q934 rfl
                  have := tm_rv q934
                  refine mv_if_neZ (tgt := 11) (a := v935.toInt) d_TrustDeskModel_isWell_4 (by decide) rfl (fun b936 => ?_) (fun b936 => ?_)
                  · refine mv_iconst (v := 0) d_TrustDeskModel_isWell_11 (by decide) ?_
                    refine mv_iret d_TrustDeskModel_isWell_12 rfl (by decide) ?_
                    refine mv_if_ne_f (tgt := 50) d_TrustDeskModel_readEnd_46 (by decide) (by decide) ?_
                    refine mv_vret d_TrustDeskModel_readEnd_49 rfl ?_
                    refine mv_goto (tgt := 165) d_TrustDeskModel_readClause_120 (by decide) ?_
                    refine mv_aload_n d_TrustDeskModel_readClause_165 rfl rfl ?_
                    refine mv_bipush (v := 59) d_TrustDeskModel_readClause_166 (by decide) ?_
                    obtain ⟨_, b943, -⟩ := I921.1 _ _ t925
                    have : (59 : Int32).toInt = 59 := by decide
                    refine mv_callV (kc' := 0) (ks' := 0) (As := [.int 59]) (st9 := [.int 59, .ref o0]) d_TrustDeskModel_readClause_168 lV_TrustDeskModel_291 b943 rfl (tc_TrustDeskModel_wantSign_x (d := (d + 23)) (x9 := x9) (o0 := o0) (x1 := 59) t925 R923 E926.1 (by have := R923.1 15 _ _ rfl; have := R923.1 16 _ _ rfl; have := R923.1 19 _ _ rfl; have := E926.f yS; omega) I921.start) rfl (Nat.le_of_ble_eq_true rfl) (Nat.le_of_ble_eq_true rfl) (Nat.le_of_ble_eq_true rfl) (hst := rfl) (fun b937r M938 n939 b937 => ?_)
                    obtain ⟨T940, J941, rfl, R944, f945⟩ := b937
                    have I942 := I921.call J941 (tm_sub (by decide)) (Or.inl rfl)
                    have t946 := J941.up t925
                    have := (rv_c I921 J941 (I921.up h_o0) (k := 22) rfl)
                    have := (rv_c I921 J941 (I921.up h_o0) (k := 24) rfl)
                    have := ra_call I921 J941 (I921.up h_o0) (k := 5) rfl rfl rfl 44
                    have := ra_call I921 J941 (I921.up h_o0) (k := 6) rfl rfl rfl 44
                    have E947 : rE M0 M938 o0 0 2 := E926.trans f945 (by decide) (yR.2 5 _ _ rfl 44).1 (by decide) (by decide)
                    have := f945.w
                    have := f945.w2
                    have := ra_call I921 J941 (I921.up h_o0) (k := 7) rfl rfl rfl ((880 + ra M0 o0 6 44).toNat)
                    have := ra_call I921 J941 (I921.up h_o0) (k := 10) rfl rfl rfl ((880 + ra M0 o0 6 44).toNat)
                    have K948 : rK M0 M938 o0 ((880 + ra M0 o0 6 44).toNat) := K927.same (sA_c I921 J941 (I921.up h_o0) (by decide))
                    have K949 : nN M938 o0 := K928.same (sA_c I921 J941 (I921.up h_o0) (by decide)) (sF_c I921 J941 (I921.up h_o0) (by decide))
                    have q950 := J941.keep t925 (by decide) q929
                    have t951 := J941.up t930
                    have q952 := J941.keep t925 (by decide) q931
                    refine mv_aload_n d_TrustDeskModel_readClause_171 rfl rfl ?_
                    obtain ⟨a954, q953, t_a954⟩ := tm_atR I942 t946 (k := 12) rfl
                    refine tr_getK q953 d_TrustDeskModel_readClause_172 f_TrustDeskModel_41_13 ?_
                    refine mv_iload_n d_TrustDeskModel_readClause_175 rfl rfl ?_
                    refine mv_aload_n d_TrustDeskModel_readClause_176 rfl rfl ?_
                    obtain ⟨a956, q955, t_a956⟩ := tm_atR I942 t946 (k := 5) rfl
                    refine tr_getK q955 d_TrustDeskModel_readClause_177 f_TrustDeskModel_20_13 ?_
                    refine mv_bipush (v := 44) d_TrustDeskModel_readClause_180 (by decide) ?_
                    refine tr_ialdR (o := o0) (k := 5) I942 q955 t_a956 (by decide) d_TrustDeskModel_readClause_182 (by unfold vp_in; decide) (fun v957 e958 => ?_)
                    have := R944.a (k := 5) rfl (44 : Int32).toNatClampNeg
                    have : v957.toInt = ra M938 o0 5 44 := e958
                    refine tr_iastR (k := 12) I942 R944 (I942.up h_o0) q953 t_a954 (by decide) (by decide) (fun lo hi h => by cases h; have := R944.1 15 _ _ rfl; have := R944.1 16 _ _ rfl; have := R944.1 19 _ _ rfl; have := E947.f yS; exact ⟨by show (0 : Int) ≤ v957.toInt; omega, by show v957.toInt ≤ (400 : Int); omega⟩) (Or.inl (by decide)) d_TrustDeskModel_readClause_183 (vp_in_iff.mpr (by have := R944.1 15 _ _ rfl; have := R944.1 16 _ _ rfl; have := R944.1 19 _ _ rfl; have := E947.f yS; omega)) (fun M959 I960 K961 R962 E963 A964 V965 => ?_)
                    have := V965 15
                    have := V965 16
                    have := V965 17
                    have := V965 19
                    have := V965 22
                    have := V965 24
                    have := A964 5 (by decide) rfl 44
                    have := A964 6 (by decide) rfl 44
                    have E966 : rE M0 M959 o0 0 2 := E947.same (fun k _ _ => V965 k) (fun k h1 h2 => A964 k (by omega) (by rcases (show k = 4 ∨ k = 5 by omega) with rfl | rfl <;> rfl))
                    have := A964 7 (by decide) rfl ((880 + ra M0 o0 6 44).toNat)
                    have := A964 10 (by decide) rfl ((880 + ra M0 o0 6 44).toNat)
                    have h967 : (880 + ra M0 o0 6 44).toNat = v734.toNatClampNeg := by have := mz_nat9 (i := v734) (by have := R944.1 15 _ _ rfl; have := R944.1 16 _ _ rfl; have := R944.1 19 _ _ rfl; have := E947.f yS; omega); have := R944.1 15 _ _ rfl; have := R944.1 16 _ _ rfl; have := R944.1 19 _ _ rfl; have := E947.f yS; omega
                    have : ra M959 o0 12 ((880 + ra M0 o0 6 44).toNat) = v957.toInt := (E963 _).trans (if_pos h967)
                    have K968 : rK M0 M959 o0 ((880 + ra M0 o0 6 44).toNat) := K948.st A964 E963 (by have := mz_nat9 (i := v734) (by have := R944.1 15 _ _ rfl; have := R944.1 16 _ _ rfl; have := R944.1 19 _ _ rfl; have := E947.f yS; omega); have := R944.1 15 _ _ rfl; have := R944.1 16 _ _ rfl; have := R944.1 19 _ _ rfl; have := E947.f yS; omega)
                    have K969 : nN M959 o0 := K949.same (sA_a A964 (by decide)) (sF_a V965)
                    exact mv_vret d_TrustDeskModel_readClause_184 rfl ⟨_, I960, rfl, R962, (rW.of E966.1 (fun h9 => absurd h9 (by have := R962.1 15 _ _ rfl; have := R962.1 16 _ _ rfl; have := R962.1 19 _ _ rfl; have := E966.f yS; omega)) (fun h9 => absurd h9 (by have := R962.1 15 _ _ rfl; have := R962.1 16 _ _ rfl; have := R962.1 19 _ _ rfl; have := E966.f yS; omega))), (rO.of E966 K968 (by have := yR.2 6 _ _ rfl 44; omega)), (by have := R962.1 15 _ _ rfl; have := R962.1 16 _ _ rfl; have := R962.1 19 _ _ rfl; have := E966.f yS; omega), (by have := R962.1 15 _ _ rfl; have := R962.1 16 _ _ rfl; have := R962.1 19 _ _ rfl; have := E966.f yS; omega), (fun _ h9 => absurd h9 (by have := R962.1 15 _ _ rfl; have := R962.1 16 _ _ rfl; have := R962.1 19 _ _ rfl; have := E966.f yS; omega))⟩
                  · exfalso
                    have := R923.1 15 _ _ rfl; have := R923.1 16 _ _ rfl; have := R923.1 19 _ _ rfl; have := E926.f yS; omega
                · refine mv_aload_n d_TrustDeskModel_readEnd_8 rfl rfl ?_
                  obtain ⟨v971, q970⟩ := tm_atI I732 t742 (k := 15) rfl
                  refine tr_getK q970 d_TrustDeskModel_readEnd_9 f_TrustDeskModel_192_13 ?_
                  have := R735.f (k := 15) q970 rfl
                  have := tm_rv q970
                  refine mv_aload_n d_TrustDeskModel_readEnd_12 rfl rfl ?_
                  obtain ⟨v973, q972⟩ := tm_atI I732 t742 (k := 16) rfl
                  refine tr_getK q972 d_TrustDeskModel_readEnd_13 f_TrustDeskModel_195_13 ?_
                  have := R735.f (k := 16) q972 rfl
                  have := tm_rv q972
                  refine mv_isub d_TrustDeskModel_readEnd_16 ?_
                  refine mv_bipush (v := 8) d_TrustDeskModel_readEnd_17 (by decide) ?_
                  have b974 : (v971 - v973 : Int32).toInt = (v971.toInt - v973.toInt) := mz_sub2 rfl rfl (by have := R735.1 15 _ _ rfl; have := R735.1 16 _ _ rfl; have := R735.1 19 _ _ rfl; have := E743.f yS; omega) (by have := R735.1 15 _ _ rfl; have := R735.1 16 _ _ rfl; have := R735.1 19 _ _ rfl; have := E743.f yS; omega)
                  have := mz_hi (v971 - v973)
                  refine mv_icmp_leZ (tgt := 30) (a := (v971 - v973).toInt) (b := 8) d_TrustDeskModel_readEnd_19 (by decide) rfl (by decide) (fun b975 => ?_) (fun b975 => ?_)
                  · refine mv_aload_n d_TrustDeskModel_readEnd_30 rfl rfl ?_
                    obtain ⟨_, b982, -⟩ := I732.1 _ _ t742
                    refine mv_callV (kc' := 0) (ks' := 0) (As := []) (st9 := [.ref o0]) d_TrustDeskModel_readEnd_31 lV_TrustDeskModel_324 b982 rfl (tc_TrustDeskModel_isThere_x (d := (d + 24)) (x9 := x9) (o0 := o0) t742 R735 E743.1 K746 I732.start) rfl (Nat.le_of_ble_eq_true rfl) (Nat.le_of_ble_eq_true rfl) (Nat.le_of_ble_eq_true rfl) (hst := rfl) (fun b976r M977 n978 b976 => ?_)
                    obtain ⟨T979, J980, v983, rfl, b984, b985, R986⟩ := b976
                    have I981 := I732.call J980 (tm_sub (by decide)) (Or.inl rfl)
                    have t987 := J980.up t742
                    have := (rv_c I732 J980 (I732.up h_o0) (k := 15) rfl)
                    have := (rv_c I732 J980 (I732.up h_o0) (k := 16) rfl)
                    have := (rv_c I732 J980 (I732.up h_o0) (k := 17) rfl)
                    have := (rv_c I732 J980 (I732.up h_o0) (k := 19) rfl)
                    have := (rv_c I732 J980 (I732.up h_o0) (k := 22) rfl)
                    have := (rv_c I732 J980 (I732.up h_o0) (k := 24) rfl)
                    have := ra_call I732 J980 (I732.up h_o0) (k := 5) rfl rfl rfl 44
                    have := ra_call I732 J980 (I732.up h_o0) (k := 6) rfl rfl rfl 44
                    have E988 : rE M0 M977 o0 0 1 := E743.same (rE_hv I732 J980 (I732.up h_o0) 15 19 (by decide)) (rE_ha I732 J980 (I732.up h_o0) (by decide))
                    have := ra_call I732 J980 (I732.up h_o0) (k := 7) rfl rfl rfl ((880 + ra M0 o0 6 44).toNat)
                    have := ra_call I732 J980 (I732.up h_o0) (k := 10) rfl rfl rfl ((880 + ra M0 o0 6 44).toNat)
                    have K989 : rK M0 M977 o0 ((880 + ra M0 o0 6 44).toNat) := K745.same (sA_c I732 J980 (I732.up h_o0) (by decide))
                    have K990 : nN M977 o0 := K746.same (sA_c I732 J980 (I732.up h_o0) (by decide)) (sF_c I732 J980 (I732.up h_o0) (by decide))
                    have q991 := J980.keep t742 (by decide) q747
                    have t992 := J980.up t748
                    have q993 := J980.keep t742 (by decide) q749
                    have q994 := J980.keep t742 (by decide) q750
                    have q995 := J980.keep t742 (by decide) q913
                    have q996 := J980.keep t742 (by decide) q970
                    have q997 := J980.keep t742 (by decide) q972
                    have := mz_hi v983
                    refine mv_if_eqZ (tgt := 42) (a := v983.toInt) d_TrustDeskModel_readEnd_34 (by decide) rfl (fun b998 => ?_) (fun b998 => ?_)
                    · refine mv_aload_n d_TrustDeskModel_readEnd_42 rfl rfl ?_
                      obtain ⟨_, b999, -⟩ := I981.1 _ _ t987
                      refine mv_callV (kc1 := 0) (ks1 := 0) (kc' := 0) (ks' := 0) (As := []) (st9 := [.ref o0]) d_TrustDeskModel_readEnd_43 lV_TrustDeskModel_230 b999 rfl (mj_enter (by decide) (Nat.le_of_ble_eq_true rfl) ?_) rfl (Nat.le_of_ble_eq_true rfl) (Nat.le_of_ble_eq_true rfl) (Nat.le_of_ble_eq_true rfl) (hst := rfl) (fun _ _ _ h => h)
                      refine mv_aload_n d_TrustDeskModel_isWell_0 rfl rfl ?_
                      refine tr_getK (k := 19) q994 d_TrustDeskModel_isWell_1 f_TrustDeskModel_224_13 ?_
                      have := mz_hi v385
                      refine mv_if_neZ (tgt := 11) (a := v385.toInt) d_TrustDeskModel_isWell_4 (by decide) rfl (fun b1000 => absurd b1000 (by omega)) (fun b1000 => ?_)
                      refine mv_iconst (v := 1) d_TrustDeskModel_isWell_7 (by decide) ?_
                      refine mv_goto (tgt := 12) d_TrustDeskModel_isWell_8 (by decide) ?_
                      refine mv_iret d_TrustDeskModel_isWell_12 rfl (by decide) ?_
                      refine mv_if_ne_t (tgt := 50) d_TrustDeskModel_readEnd_46 (by decide) (by decide) ?_
                      refine mv_aload_n d_TrustDeskModel_readEnd_50 rfl rfl ?_
                      obtain ⟨a1002, q1001, t_a1002⟩ := tm_atR I981 t987 (k := 25) rfl
                      refine tr_getK q1001 d_TrustDeskModel_readEnd_51 f_TrustDeskModel_51_13 ?_
                      refine mv_aload_n d_TrustDeskModel_readEnd_54 rfl rfl ?_
                      refine tr_getK (k := 24) q993 d_TrustDeskModel_readEnd_55 f_TrustDeskModel_321_13 ?_
                      refine mv_aload_n d_TrustDeskModel_readEnd_58 rfl rfl ?_
                      refine tr_getK (k := 16) q997 d_TrustDeskModel_readEnd_59 f_TrustDeskModel_195_13 ?_
                      refine tr_iastR (k := 25) I981 R986 (I981.up h_o0) q1001 t_a1002 (by decide) (by decide) (fun lo hi h => by cases h; have := R986.1 15 _ _ rfl; have := R986.1 16 _ _ rfl; have := R986.1 19 _ _ rfl; have := E988.f yS; exact ⟨by show (0 : Int) ≤ v973.toInt; omega, by show v973.toInt ≤ (400 : Int); omega⟩) (Or.inl (by decide)) d_TrustDeskModel_readEnd_62 (vp_in_iff.mpr (by have := R986.1 15 _ _ rfl; have := R986.1 16 _ _ rfl; have := R986.1 19 _ _ rfl; have := E988.f yS; omega)) (fun M1003 I1004 K1005 R1006 E1007 A1008 V1009 => ?_)
                      have := V1009 15
                      have := V1009 16
                      have := V1009 17
                      have := V1009 19
                      have := V1009 22
                      have := V1009 24
                      have := A1008 5 (by decide) rfl 44
                      have := A1008 6 (by decide) rfl 44
                      have E1010 : rE M0 M1003 o0 0 1 := E988.same (fun k _ _ => V1009 k) (fun k h1 h2 => A1008 k (by omega) (by rcases (show k = 4 ∨ k = 5 by omega) with rfl | rfl <;> rfl))
                      have := A1008 7 (by decide) rfl ((880 + ra M0 o0 6 44).toNat)
                      have := A1008 10 (by decide) rfl ((880 + ra M0 o0 6 44).toNat)
                      have h1011 : (rv M0 o0 24).toNat = v381.toNatClampNeg := by have := mz_nat9 (i := v381) (by have := R986.1 15 _ _ rfl; have := R986.1 16 _ _ rfl; have := R986.1 19 _ _ rfl; have := E988.f yS; omega); have := R986.1 15 _ _ rfl; have := R986.1 16 _ _ rfl; have := R986.1 19 _ _ rfl; have := E988.f yS; omega
                      have : ra M1003 o0 25 ((rv M0 o0 24).toNat) = v973.toInt := (E1007 _).trans (if_pos h1011)
                      have K1012 : rK M0 M1003 o0 ((880 + ra M0 o0 6 44).toNat) := K989.same (sA_a A1008 (by decide))
                      have K1013 : nN M1003 o0 := K990.st A1008 E1007 V1009 (Or.inl rfl) (by have := mz_nat9 (i := v381) (by have := R986.1 15 _ _ rfl; have := R986.1 16 _ _ rfl; have := R986.1 19 _ _ rfl; have := E988.f yS; omega); have := R986.1 15 _ _ rfl; have := R986.1 16 _ _ rfl; have := R986.1 19 _ _ rfl; have := E988.f yS; omega)
                      refine mv_aload_n d_TrustDeskModel_readEnd_63 rfl rfl ?_
                      obtain ⟨a1015, q1014, t_a1015⟩ := tm_atR I1004 t987 (k := 26) rfl
                      refine tr_getK q1014 d_TrustDeskModel_readEnd_64 f_TrustDeskModel_54_13 ?_
                      refine mv_aload_n d_TrustDeskModel_readEnd_67 rfl rfl ?_
                      refine tr_getK (k := 24) (K1005 _ 13 24 _ q993) d_TrustDeskModel_readEnd_68 f_TrustDeskModel_321_13 ?_
                      refine mv_aload_n d_TrustDeskModel_readEnd_71 rfl rfl ?_
                      refine tr_getK (k := 15) (K1005 _ 13 15 _ q996) d_TrustDeskModel_readEnd_72 f_TrustDeskModel_192_13 ?_
                      refine mv_aload_n d_TrustDeskModel_readEnd_75 rfl rfl ?_
                      refine tr_getK (k := 16) (K1005 _ 13 16 _ q997) d_TrustDeskModel_readEnd_76 f_TrustDeskModel_195_13 ?_
                      refine mv_isub d_TrustDeskModel_readEnd_79 ?_
                      have b1016 : (v971 - v973 : Int32).toInt = (v971.toInt - v973.toInt) := mz_sub2 rfl rfl (by have := R1006.1 15 _ _ rfl; have := R1006.1 16 _ _ rfl; have := R1006.1 19 _ _ rfl; have := E1010.f yS; omega) (by have := R1006.1 15 _ _ rfl; have := R1006.1 16 _ _ rfl; have := R1006.1 19 _ _ rfl; have := E1010.f yS; omega)
                      refine tr_iastR (k := 26) I1004 R1006 (I1004.up h_o0) q1014 t_a1015 (by decide) (by decide) (fun lo hi h => by cases h; have := R1006.1 15 _ _ rfl; have := R1006.1 16 _ _ rfl; have := R1006.1 19 _ _ rfl; have := E1010.f yS; exact ⟨by show (0 : Int) ≤ (v971 - v973).toInt; omega, by show (v971 - v973).toInt ≤ (8 : Int); omega⟩) (Or.inl (by decide)) d_TrustDeskModel_readEnd_80 (vp_in_iff.mpr (by have := R1006.1 15 _ _ rfl; have := R1006.1 16 _ _ rfl; have := R1006.1 19 _ _ rfl; have := E1010.f yS; omega)) (fun M1017 I1018 K1019 R1020 E1021 A1022 V1023 => ?_)
                      have := V1023 15
                      have := V1023 16
                      have := V1023 17
                      have := V1023 19
                      have := V1023 22
                      have := V1023 24
                      have := A1022 5 (by decide) rfl 44
                      have := A1022 6 (by decide) rfl 44
                      have E1024 : rE M0 M1017 o0 0 1 := E1010.same (fun k _ _ => V1023 k) (fun k h1 h2 => A1022 k (by omega) (by rcases (show k = 4 ∨ k = 5 by omega) with rfl | rfl <;> rfl))
                      have := A1022 7 (by decide) rfl ((880 + ra M0 o0 6 44).toNat)
                      have := A1022 10 (by decide) rfl ((880 + ra M0 o0 6 44).toNat)
                      have := A1022 25 (by decide) rfl ((rv M0 o0 24).toNat)
                      have h1025 : (rv M0 o0 24).toNat = v381.toNatClampNeg := by have := mz_nat9 (i := v381) (by have := R1006.1 15 _ _ rfl; have := R1006.1 16 _ _ rfl; have := R1006.1 19 _ _ rfl; have := E1010.f yS; omega); have := R1006.1 15 _ _ rfl; have := R1006.1 16 _ _ rfl; have := R1006.1 19 _ _ rfl; have := E1010.f yS; omega
                      have : ra M1017 o0 26 ((rv M0 o0 24).toNat) = (v971 - v973).toInt := (E1021 _).trans (if_pos h1025)
                      have K1026 : rK M0 M1017 o0 ((880 + ra M0 o0 6 44).toNat) := K1012.same (sA_a A1022 (by decide))
                      have K1027 : nN M1017 o0 := K1013.st A1022 E1021 V1023 (Or.inr rfl) (by have := mz_nat9 (i := v381) (by have := R1006.1 15 _ _ rfl; have := R1006.1 16 _ _ rfl; have := R1006.1 19 _ _ rfl; have := E1010.f yS; omega); have := R1006.1 15 _ _ rfl; have := R1006.1 16 _ _ rfl; have := R1006.1 19 _ _ rfl; have := E1010.f yS; omega)
                      refine mv_aload_n d_TrustDeskModel_readEnd_81 rfl rfl ?_
                      obtain ⟨a1029, q1028, t_a1029⟩ := tm_atR I1018 t987 (k := 8) rfl
                      refine tr_getK q1028 d_TrustDeskModel_readEnd_82 f_TrustDeskModel_29_13 ?_
                      refine mv_iload_n d_TrustDeskModel_readEnd_85 rfl rfl ?_
                      refine mv_aload_n d_TrustDeskModel_readEnd_86 rfl rfl ?_
                      refine tr_getK (k := 15) (K1019 _ 13 15 _ (K1005 _ 13 15 _ q996)) d_TrustDeskModel_readEnd_87 f_TrustDeskModel_192_13 ?_
                      refine mv_aload_n d_TrustDeskModel_readEnd_90 rfl rfl ?_
                      refine tr_getK (k := 16) (K1019 _ 13 16 _ (K1005 _ 13 16 _ q997)) d_TrustDeskModel_readEnd_91 f_TrustDeskModel_195_13 ?_
                      refine mv_isub d_TrustDeskModel_readEnd_94 ?_
                      have b1030 : (v971 - v973 : Int32).toInt = (v971.toInt - v973.toInt) := mz_sub2 rfl rfl (by have := R1020.1 15 _ _ rfl; have := R1020.1 16 _ _ rfl; have := R1020.1 19 _ _ rfl; have := E1024.f yS; omega) (by have := R1020.1 15 _ _ rfl; have := R1020.1 16 _ _ rfl; have := R1020.1 19 _ _ rfl; have := E1024.f yS; omega)
                      refine tr_iastR (k := 8) I1018 R1020 (I1018.up h_o0) q1028 t_a1029 (by decide) (by decide) (fun lo hi h => by cases h; have := R1020.1 15 _ _ rfl; have := R1020.1 16 _ _ rfl; have := R1020.1 19 _ _ rfl; have := E1024.f yS; exact ⟨by show ((-1) : Int) ≤ (v971 - v973).toInt; omega, by show (v971 - v973).toInt ≤ (720 : Int); omega⟩) (Or.inl (by decide)) d_TrustDeskModel_readEnd_95 (vp_in_iff.mpr (by have := R1020.1 15 _ _ rfl; have := R1020.1 16 _ _ rfl; have := R1020.1 19 _ _ rfl; have := E1024.f yS; omega)) (fun M1031 I1032 K1033 R1034 E1035 A1036 V1037 => ?_)
                      have := V1037 15
                      have := V1037 16
                      have := V1037 17
                      have := V1037 19
                      have := V1037 22
                      have := V1037 24
                      have := A1036 5 (by decide) rfl 44
                      have := A1036 6 (by decide) rfl 44
                      have E1038 : rE M0 M1031 o0 0 1 := E1024.same (fun k _ _ => V1037 k) (fun k h1 h2 => A1036 k (by omega) (by rcases (show k = 4 ∨ k = 5 by omega) with rfl | rfl <;> rfl))
                      have := A1036 7 (by decide) rfl ((880 + ra M0 o0 6 44).toNat)
                      have := A1036 10 (by decide) rfl ((880 + ra M0 o0 6 44).toNat)
                      have := A1036 25 (by decide) rfl ((rv M0 o0 24).toNat)
                      have := A1036 26 (by decide) rfl ((rv M0 o0 24).toNat)
                      have h1039 : (880 + ra M0 o0 6 44).toNat = v734.toNatClampNeg := by have := mz_nat9 (i := v734) (by have := R1020.1 15 _ _ rfl; have := R1020.1 16 _ _ rfl; have := R1020.1 19 _ _ rfl; have := E1024.f yS; omega); have := R1020.1 15 _ _ rfl; have := R1020.1 16 _ _ rfl; have := R1020.1 19 _ _ rfl; have := E1024.f yS; omega
                      have : ra M1031 o0 8 ((880 + ra M0 o0 6 44).toNat) = (v971 - v973).toInt := (E1035 _).trans (if_pos h1039)
                      have K1040 : rK M0 M1031 o0 ((880 + ra M0 o0 6 44).toNat) := K1026.st A1036 E1035 (by have := mz_nat9 (i := v734) (by have := R1020.1 15 _ _ rfl; have := R1020.1 16 _ _ rfl; have := R1020.1 19 _ _ rfl; have := E1024.f yS; omega); have := R1020.1 15 _ _ rfl; have := R1020.1 16 _ _ rfl; have := R1020.1 19 _ _ rfl; have := E1024.f yS; omega)
                      have K1041 : nN M1031 o0 := K1027.same (sA_a A1036 (by decide)) (sF_a V1037)
                      refine mv_aload_n d_TrustDeskModel_readEnd_96 rfl rfl ?_
                      refine mv_dup d_TrustDeskModel_readEnd_97 rfl ?_
                      refine tr_getK (k := 24) (K1033 _ 13 24 _ (K1019 _ 13 24 _ (K1005 _ 13 24 _ q993))) d_TrustDeskModel_readEnd_98 f_TrustDeskModel_321_13 ?_
                      refine mv_iconst (v := 1) d_TrustDeskModel_readEnd_101 (by decide) ?_
                      refine mv_iadd d_TrustDeskModel_readEnd_102 ?_
                      have b1042 : (v381 + 1 : Int32).toInt = (v381.toInt + 1) := mz_add2 rfl (by decide) (by have := R1034.1 15 _ _ rfl; have := R1034.1 16 _ _ rfl; have := R1034.1 19 _ _ rfl; have := E1038.f yS; omega) (by have := R1034.1 15 _ _ rfl; have := R1034.1 16 _ _ rfl; have := R1034.1 19 _ _ rfl; have := E1038.f yS; omega)
                      refine tr_putR (k := 24) I1032 R1034 t987 rfl ⟨_, rfl⟩ (fun _ h => by cases h) rfl (fun lo hi h => by cases h; have := R1034.1 15 _ _ rfl; have := R1034.1 16 _ _ rfl; have := R1034.1 19 _ _ rfl; have := E1038.f yS; exact ⟨by show (0 : Int) ≤ (v381 + 1).toInt; omega, by show (v381 + 1).toInt ≤ (6 : Int); omega⟩) (Or.inl (by decide)) d_TrustDeskModel_readEnd_103 p_TrustDeskModel_321_13 rfl rfl (fun M1043 I1044 q1045 K1046 R1047 A1048 V1049 => ?_)
                      have := V1049 15 (by decide)
                      have := V1049 16 (by decide)
                      have := V1049 17 (by decide)
                      have := V1049 19 (by decide)
                      have := V1049 22 (by decide)
                      have := tm_rv q1045
                      have := A1048 5 (by decide) 44
                      have := A1048 6 (by decide) 44
                      have E1050 : rE M0 M1043 o0 0 1 := E1038.same (fun k h1 h2 => V1049 k (by omega)) (fun k h1 h2 => A1048 k (by omega))
                      have := A1048 7 (by decide) ((880 + ra M0 o0 6 44).toNat)
                      have := A1048 10 (by decide) ((880 + ra M0 o0 6 44).toNat)
                      have := A1048 25 (by decide) ((rv M0 o0 24).toNat)
                      have := A1048 26 (by decide) ((rv M0 o0 24).toNat)
                      have := A1048 8 (by decide) ((880 + ra M0 o0 6 44).toNat)
                      have K1051 : rK M0 M1043 o0 ((880 + ra M0 o0 6 44).toNat) := K1040.same (sA_f A1048 (by decide))
                      have K1052 : nN M1043 o0 := K1041.inc (n := (rv M0 o0 24).toNat) A1048 (by have := R1034.1 15 _ _ rfl; have := R1034.1 16 _ _ rfl; have := R1034.1 19 _ _ rfl; have := E1038.f yS; omega) (by have := R1034.1 15 _ _ rfl; have := R1034.1 16 _ _ rfl; have := R1034.1 19 _ _ rfl; have := E1038.f yS; omega) (by have := R1034.1 15 _ _ rfl; have := R1034.1 16 _ _ rfl; have := R1034.1 19 _ _ rfl; have := E1038.f yS; omega)
                      refine mv_aload_n d_TrustDeskModel_readEnd_106 rfl rfl ?_
                      obtain ⟨_, b1059, -⟩ := I1044.1 _ _ t987
                      refine mv_callV (kc' := 0) (ks' := 0) (As := []) (st9 := [.ref o0]) d_TrustDeskModel_readEnd_107 lV_TrustDeskModel_237 b1059 rfl (tc_TrustDeskModel_next_x (d := (d + 23)) (x9 := x9) (o0 := o0) t987 R1047 I1044.start) rfl (Nat.le_of_ble_eq_true rfl) (Nat.le_of_ble_eq_true rfl) (Nat.le_of_ble_eq_true rfl) (hst := rfl) (fun b1053r M1054 n1055 b1053 => ?_)
                      obtain ⟨T1056, J1057, rfl, R1060, f1061, f1062⟩ := b1053
                      have I1058 := I1044.call J1057 (tm_sub (by decide)) (Or.inl rfl)
                      have t1063 := J1057.up t987
                      have := (rv_c I1044 J1057 (I1044.up h_o0) (k := 19) rfl)
                      have := (rv_c I1044 J1057 (I1044.up h_o0) (k := 22) rfl)
                      have := (rv_c I1044 J1057 (I1044.up h_o0) (k := 24) rfl)
                      have := ra_call I1044 J1057 (I1044.up h_o0) (k := 5) rfl rfl rfl 44
                      have := ra_call I1044 J1057 (I1044.up h_o0) (k := 6) rfl rfl rfl 44
                      have h1065 : rv M1043 o0 16 + 1 ≤ rv M1043 o0 15 := (by have := R1047.1 15 _ _ rfl; have := R1047.1 16 _ _ rfl; have := R1047.1 19 _ _ rfl; have := E1050.f yS; omega)
                      have E1064 : rE M0 M1054 o0 0 2 := E1050.next f1061 f1062 (rv_c I1044 J1057 (I1044.up h_o0) (k := 19) rfl) (rE_ha I1044 J1057 (I1044.up h_o0) (by decide)) (e := 1) h1065 (by decide)
                      have := ra_call I1044 J1057 (I1044.up h_o0) (k := 7) rfl rfl rfl ((880 + ra M0 o0 6 44).toNat)
                      have := ra_call I1044 J1057 (I1044.up h_o0) (k := 10) rfl rfl rfl ((880 + ra M0 o0 6 44).toNat)
                      have := ra_call I1044 J1057 (I1044.up h_o0) (k := 25) rfl rfl rfl ((rv M0 o0 24).toNat)
                      have := ra_call I1044 J1057 (I1044.up h_o0) (k := 26) rfl rfl rfl ((rv M0 o0 24).toNat)
                      have := ra_call I1044 J1057 (I1044.up h_o0) (k := 8) rfl rfl rfl ((880 + ra M0 o0 6 44).toNat)
                      have K1066 : rK M0 M1054 o0 ((880 + ra M0 o0 6 44).toNat) := K1051.same (sA_c I1044 J1057 (I1044.up h_o0) (by decide))
                      have K1067 : nN M1054 o0 := K1052.same (sA_c I1044 J1057 (I1044.up h_o0) (by decide)) (sF_c I1044 J1057 (I1044.up h_o0) (by decide))
                      have q1068 := J1057.keep t987 (by decide) (K1046 _ 13 6 _ rfl (K1033 _ 13 6 _ (K1019 _ 13 6 _ (K1005 _ 13 6 _ q991))))
                      have t1069 := J1057.up t992
                      have q1070 := J1057.keep t987 (by decide) (K1046 _ 13 19 _ rfl (K1033 _ 13 19 _ (K1019 _ 13 19 _ (K1005 _ 13 19 _ q994))))
                      have q1071 := J1057.keep t987 (by decide) (K1046 _ 13 25 _ rfl (K1033 _ 13 25 _ (K1019 _ 13 25 _ (K1005 _ 13 25 _ q1001))))
                      have t1072 := J1057.up t_a1002
                      have q1073 := J1057.keep t987 (by decide) (K1046 _ 13 26 _ rfl (K1033 _ 13 26 _ (K1019 _ 13 26 _ q1014)))
                      have t1074 := J1057.up t_a1015
                      have q1075 := J1057.keep t987 (by decide) (K1046 _ 13 8 _ rfl (K1033 _ 13 8 _ q1028))
                      have t1076 := J1057.up t_a1029
                      have q1077 := J1057.keep t987 (by decide) q1045
                      refine mv_aload_n d_TrustDeskModel_readEnd_110 rfl rfl ?_
                      refine mv_ldcSw (id := 45) (tx := "pays") d_TrustDeskModel_readEnd_111 (List.mem_of_getElem? (i := 35) rfl) ?_
                      obtain ⟨_, b1084, -⟩ := I1058.1 _ _ t1063
                      refine mv_callV (kc' := 0) (ks' := 0) (As := [.ref 45]) (st9 := [.ref 45, .ref o0]) d_TrustDeskModel_readEnd_114 lV_TrustDeskModel_329 b1084 rfl (tc_TrustDeskModel_wantWord_s1_45_x (d := (d + 19)) (x9 := x9) (o0 := o0) t1063 R1060 E1064.1 (by have := R1060.1 15 _ _ rfl; have := R1060.1 16 _ _ rfl; have := R1060.1 19 _ _ rfl; have := E1064.f yS; omega) I1058.start) rfl (Nat.le_of_ble_eq_true rfl) (Nat.le_of_ble_eq_true rfl) (Nat.le_of_ble_eq_true rfl) (hst := rfl) (fun b1078r M1079 n1080 b1078 => ?_)
                      obtain ⟨T1081, J1082, rfl, R1085, f1086⟩ := b1078
                      have I1083 := I1058.call J1082 (tm_sub (by decide)) (Or.inl rfl)
                      have t1087 := J1082.up t1063
                      have := (rv_c I1058 J1082 (I1058.up h_o0) (k := 22) rfl)
                      have := (rv_c I1058 J1082 (I1058.up h_o0) (k := 24) rfl)
                      have := ra_call I1058 J1082 (I1058.up h_o0) (k := 5) rfl rfl rfl 44
                      have := ra_call I1058 J1082 (I1058.up h_o0) (k := 6) rfl rfl rfl 44
                      have E1088 : rE M0 M1079 o0 0 3 := E1064.trans f1086 (by decide) (yR.2 5 _ _ rfl 44).1 (by decide) (by decide)
                      have := f1086.w
                      have := f1086.w2
                      have := ra_call I1058 J1082 (I1058.up h_o0) (k := 7) rfl rfl rfl ((880 + ra M0 o0 6 44).toNat)
                      have := ra_call I1058 J1082 (I1058.up h_o0) (k := 10) rfl rfl rfl ((880 + ra M0 o0 6 44).toNat)
                      have := ra_call I1058 J1082 (I1058.up h_o0) (k := 25) rfl rfl rfl ((rv M0 o0 24).toNat)
                      have := ra_call I1058 J1082 (I1058.up h_o0) (k := 26) rfl rfl rfl ((rv M0 o0 24).toNat)
                      have := ra_call I1058 J1082 (I1058.up h_o0) (k := 8) rfl rfl rfl ((880 + ra M0 o0 6 44).toNat)
                      have K1089 : rK M0 M1079 o0 ((880 + ra M0 o0 6 44).toNat) := K1066.same (sA_c I1058 J1082 (I1058.up h_o0) (by decide))
                      have K1090 : nN M1079 o0 := K1067.same (sA_c I1058 J1082 (I1058.up h_o0) (by decide)) (sF_c I1058 J1082 (I1058.up h_o0) (by decide))
                      have q1091 := J1082.keep t1063 (by decide) q1068
                      have t1092 := J1082.up t1069
                      have q1093 := J1082.keep t1063 (by decide) q1071
                      have t1094 := J1082.up t1072
                      have q1095 := J1082.keep t1063 (by decide) q1073
                      have t1096 := J1082.up t1074
                      have q1097 := J1082.keep t1063 (by decide) q1075
                      have t1098 := J1082.up t1076
                      have q1099 := J1082.keep t1063 (by decide) q1077
                      refine mv_aload_n d_TrustDeskModel_readEnd_117 rfl rfl ?_
                      obtain ⟨_, b1106, -⟩ := I1083.1 _ _ t1087
                      refine mv_callV (kc' := 0) (ks' := 0) (As := []) (st9 := [.ref o0]) d_TrustDeskModel_readEnd_118 lV_TrustDeskModel_288 b1106 rfl (tc_TrustDeskModel_sum_q5_x (d := (d + 4)) (x9 := x9) (o0 := o0) t1087 R1085 E1088.1 (by have := R1085.1 15 _ _ rfl; have := R1085.1 16 _ _ rfl; have := R1085.1 19 _ _ rfl; have := E1088.f yS; omega) (by have := R1085.1 15 _ _ rfl; have := R1085.1 16 _ _ rfl; have := R1085.1 19 _ _ rfl; have := E1088.f yS; omega) I1083.start) rfl (Nat.le_of_ble_eq_true rfl) (Nat.le_of_ble_eq_true rfl) (Nat.le_of_ble_eq_true rfl) (hst := rfl) (fun b1100r M1101 n1102 b1100 => ?_)
                      obtain ⟨T1103, J1104, rfl, R1107, f1108, f1109⟩ := b1100
                      have I1105 := I1083.call J1104 (tm_sub (by decide)) (Or.inl rfl)
                      have t1110 := J1104.up t1087
                      have := (rv_c I1083 J1104 (I1083.up h_o0) (k := 24) rfl)
                      have := ra_call I1083 J1104 (I1083.up h_o0) (k := 6) rfl rfl rfl 44
                      have E1111 : rE M0 M1101 o0 1 3 := E1088.trans f1108 (by decide) (yR.2 5 _ _ rfl 44).1 (by decide) (by decide)
                      have := f1108.w
                      have := f1108.w2
                      have := ra_call I1083 J1104 (I1083.up h_o0) (k := 7) rfl rfl rfl ((880 + ra M0 o0 6 44).toNat)
                      have := ra_call I1083 J1104 (I1083.up h_o0) (k := 10) rfl rfl rfl ((880 + ra M0 o0 6 44).toNat)
                      have := ra_call I1083 J1104 (I1083.up h_o0) (k := 25) rfl rfl rfl ((rv M0 o0 24).toNat)
                      have := ra_call I1083 J1104 (I1083.up h_o0) (k := 26) rfl rfl rfl ((rv M0 o0 24).toNat)
                      have := ra_call I1083 J1104 (I1083.up h_o0) (k := 8) rfl rfl rfl ((880 + ra M0 o0 6 44).toNat)
                      have K1112 : rK M0 M1101 o0 ((880 + ra M0 o0 6 44).toNat) := K1089.same (sA_c I1083 J1104 (I1083.up h_o0) (by decide))
                      have K1113 : nN M1101 o0 := K1090.same (sA_c I1083 J1104 (I1083.up h_o0) (by decide)) (sF_c I1083 J1104 (I1083.up h_o0) (by decide))
                      have q1114 := J1104.keep t1087 (by decide) q1091
                      have t1115 := J1104.up t1092
                      have q1116 := J1104.keep t1087 (by decide) q1093
                      have t1117 := J1104.up t1094
                      have q1118 := J1104.keep t1087 (by decide) q1095
                      have t1119 := J1104.up t1096
                      have q1120 := J1104.keep t1087 (by decide) q1097
                      have t1121 := J1104.up t1098
                      have q1122 := J1104.keep t1087 (by decide) q1099
                      refine mv_aload_n d_TrustDeskModel_readEnd_121 rfl rfl ?_
                      obtain ⟨a1124, q1123, t_a1124⟩ := tm_atR I1105 t1110 (k := 11) rfl
                      refine tr_getK q1123 d_TrustDeskModel_readEnd_122 f_TrustDeskModel_38_13 ?_
                      refine mv_iload_n d_TrustDeskModel_readEnd_125 rfl rfl ?_
                      refine mv_aload_n d_TrustDeskModel_readEnd_126 rfl rfl ?_
                      obtain ⟨a1126, q1125, t_a1126⟩ := tm_atR I1105 t1110 (k := 5) rfl
                      refine tr_getK q1125 d_TrustDeskModel_readEnd_127 f_TrustDeskModel_20_13 ?_
                      refine mv_bipush (v := 44) d_TrustDeskModel_readEnd_130 (by decide) ?_
                      refine tr_ialdR (o := o0) (k := 5) I1105 q1125 t_a1126 (by decide) d_TrustDeskModel_readEnd_132 (by unfold vp_in; decide) (fun v1127 e1128 => ?_)
                      have := R1107.a (k := 5) rfl (44 : Int32).toNatClampNeg
                      have : v1127.toInt = ra M1101 o0 5 44 := e1128
                      refine tr_iastR (k := 11) I1105 R1107 (I1105.up h_o0) q1123 t_a1124 (by decide) (by decide) (fun lo hi h => by cases h; have := R1107.1 15 _ _ rfl; have := R1107.1 16 _ _ rfl; have := R1107.1 19 _ _ rfl; have := E1111.f yS; exact ⟨by show (0 : Int) ≤ v1127.toInt; omega, by show v1127.toInt ≤ (400 : Int); omega⟩) (Or.inl (by decide)) d_TrustDeskModel_readEnd_133 (vp_in_iff.mpr (by have := R1107.1 15 _ _ rfl; have := R1107.1 16 _ _ rfl; have := R1107.1 19 _ _ rfl; have := E1111.f yS; omega)) (fun M1129 I1130 K1131 R1132 E1133 A1134 V1135 => ?_)
                      have := V1135 15
                      have := V1135 16
                      have := V1135 17
                      have := V1135 19
                      have := V1135 22
                      have := V1135 24
                      have := A1134 5 (by decide) rfl 44
                      have := A1134 6 (by decide) rfl 44
                      have E1136 : rE M0 M1129 o0 1 3 := E1111.same (fun k _ _ => V1135 k) (fun k h1 h2 => A1134 k (by omega) (by rcases (show k = 4 ∨ k = 5 by omega) with rfl | rfl <;> rfl))
                      have := A1134 7 (by decide) rfl ((880 + ra M0 o0 6 44).toNat)
                      have := A1134 10 (by decide) rfl ((880 + ra M0 o0 6 44).toNat)
                      have := A1134 25 (by decide) rfl ((rv M0 o0 24).toNat)
                      have := A1134 26 (by decide) rfl ((rv M0 o0 24).toNat)
                      have := A1134 8 (by decide) rfl ((880 + ra M0 o0 6 44).toNat)
                      have h1137 : (880 + ra M0 o0 6 44).toNat = v734.toNatClampNeg := by have := mz_nat9 (i := v734) (by have := R1107.1 15 _ _ rfl; have := R1107.1 16 _ _ rfl; have := R1107.1 19 _ _ rfl; have := E1111.f yS; omega); have := R1107.1 15 _ _ rfl; have := R1107.1 16 _ _ rfl; have := R1107.1 19 _ _ rfl; have := E1111.f yS; omega
                      have : ra M1129 o0 11 ((880 + ra M0 o0 6 44).toNat) = v1127.toInt := (E1133 _).trans (if_pos h1137)
                      have K1138 : rK M0 M1129 o0 ((880 + ra M0 o0 6 44).toNat) := K1112.st A1134 E1133 (by have := mz_nat9 (i := v734) (by have := R1107.1 15 _ _ rfl; have := R1107.1 16 _ _ rfl; have := R1107.1 19 _ _ rfl; have := E1111.f yS; omega); have := R1107.1 15 _ _ rfl; have := R1107.1 16 _ _ rfl; have := R1107.1 19 _ _ rfl; have := E1111.f yS; omega)
                      have K1139 : nN M1129 o0 := K1113.same (sA_a A1134 (by decide)) (sF_a V1135)
                      have F1140 : rE M1129 M1129 o0 0 0 := rE.rf E1136.1
                      refine mv_aload_n d_TrustDeskModel_readEnd_134 rfl rfl ?_
                      refine mv_ldcSw (id := 25) (tx := "if") d_TrustDeskModel_readEnd_135 (List.mem_of_getElem? (i := 15) rfl) ?_
                      obtain ⟨_, b1147, -⟩ := I1130.1 _ _ t1110
                      refine mv_callV (kc' := 0) (ks' := 0) (As := [.ref 25]) (st9 := [.ref 25, .ref o0]) d_TrustDeskModel_readEnd_138 lV_TrustDeskModel_329 b1147 rfl (tc_TrustDeskModel_wantWord_s1_25_x (d := (d + 19)) (x9 := x9) (o0 := o0) t1110 R1132 E1136.1 (by have := R1132.1 15 _ _ rfl; have := R1132.1 16 _ _ rfl; have := R1132.1 19 _ _ rfl; have := E1136.f yS; omega) I1130.start) rfl (Nat.le_of_ble_eq_true rfl) (Nat.le_of_ble_eq_true rfl) (Nat.le_of_ble_eq_true rfl) (hst := rfl) (fun b1141r M1142 n1143 b1141 => ?_)
                      obtain ⟨T1144, J1145, rfl, R1148, f1149⟩ := b1141
                      have I1146 := I1130.call J1145 (tm_sub (by decide)) (Or.inl rfl)
                      have t1150 := J1145.up t1110
                      have := (rv_c I1130 J1145 (I1130.up h_o0) (k := 22) rfl)
                      have := (rv_c I1130 J1145 (I1130.up h_o0) (k := 24) rfl)
                      have := ra_call I1130 J1145 (I1130.up h_o0) (k := 5) rfl rfl rfl 44
                      have := ra_call I1130 J1145 (I1130.up h_o0) (k := 6) rfl rfl rfl 44
                      have E1151 : rE M0 M1142 o0 1 4 := E1136.trans f1149 (by decide) (yR.2 5 _ _ rfl 44).1 (by decide) (by decide)
                      have := f1149.w
                      have := f1149.w2
                      have := ra_call I1130 J1145 (I1130.up h_o0) (k := 7) rfl rfl rfl ((880 + ra M0 o0 6 44).toNat)
                      have := ra_call I1130 J1145 (I1130.up h_o0) (k := 10) rfl rfl rfl ((880 + ra M0 o0 6 44).toNat)
                      have := ra_call I1130 J1145 (I1130.up h_o0) (k := 25) rfl rfl rfl ((rv M0 o0 24).toNat)
                      have := ra_call I1130 J1145 (I1130.up h_o0) (k := 26) rfl rfl rfl ((rv M0 o0 24).toNat)
                      have := ra_call I1130 J1145 (I1130.up h_o0) (k := 8) rfl rfl rfl ((880 + ra M0 o0 6 44).toNat)
                      have := ra_call I1130 J1145 (I1130.up h_o0) (k := 11) rfl rfl rfl ((880 + ra M0 o0 6 44).toNat)
                      have K1152 : rK M0 M1142 o0 ((880 + ra M0 o0 6 44).toNat) := K1138.same (sA_c I1130 J1145 (I1130.up h_o0) (by decide))
                      have K1153 : nN M1142 o0 := K1139.same (sA_c I1130 J1145 (I1130.up h_o0) (by decide)) (sF_c I1130 J1145 (I1130.up h_o0) (by decide))
                      have F1154 : rE M1129 M1142 o0 0 1 := F1140.trans f1149 (by decide) (R1132.2 5 _ _ rfl 44).1 (by decide) (by decide)
                      have q1155 := J1145.keep t1110 (by decide) (K1131 _ 13 6 _ q1114)
                      have t1156 := J1145.up t1115
                      have q1157 := J1145.keep t1110 (by decide) (K1131 _ 13 25 _ q1116)
                      have t1158 := J1145.up t1117
                      have q1159 := J1145.keep t1110 (by decide) (K1131 _ 13 26 _ q1118)
                      have t1160 := J1145.up t1119
                      have q1161 := J1145.keep t1110 (by decide) (K1131 _ 13 8 _ q1120)
                      have t1162 := J1145.up t1121
                      have q1163 := J1145.keep t1110 (by decide) (K1131 _ 13 24 _ q1122)
                      have q1164 := J1145.keep t1110 (by decide) (K1131 _ 13 11 _ q1123)
                      have t1165 := J1145.up t_a1124
                      have q1166 := J1145.keep t1110 (by decide) (K1131 _ 13 5 _ q1125)
                      have t1167 := J1145.up t_a1126
                      refine mv_aload_n d_TrustDeskModel_readEnd_141 rfl rfl ?_
                      obtain ⟨_, b1174, -⟩ := I1146.1 _ _ t1150
                      refine mv_callV (kc' := 0) (ks' := 0) (As := []) (st9 := [.ref o0]) d_TrustDeskModel_readEnd_142 lV_TrustDeskModel_302 b1174 rfl (tc_TrustDeskModel_cond_q5_x (d := d) (x9 := x9) (o0 := o0) t1150 R1148 E1151.1 (by have := R1148.1 15 _ _ rfl; have := R1148.1 16 _ _ rfl; have := R1148.1 19 _ _ rfl; have := E1151.f yS; omega) (by have := R1148.1 15 _ _ rfl; have := R1148.1 16 _ _ rfl; have := R1148.1 19 _ _ rfl; have := E1151.f yS; omega) I1146.start) rfl (Nat.le_of_ble_eq_true rfl) (Nat.le_of_ble_eq_true rfl) (Nat.le_of_ble_eq_true rfl) (hst := rfl) (fun b1168r M1169 n1170 b1168 => ?_)
                      obtain ⟨T1171, J1172, rfl, R1175, f1176, f1177⟩ := b1168
                      have I1173 := I1146.call J1172 (tm_sub (by decide)) (Or.inl rfl)
                      have t1178 := J1172.up t1150
                      have := (rv_c I1146 J1172 (I1146.up h_o0) (k := 24) rfl)
                      have := ra_call I1146 J1172 (I1146.up h_o0) (k := 6) rfl rfl rfl 44
                      have E1179 : rE M0 M1169 o0 2 4 := E1151.trans f1176 (by decide) (yR.2 5 _ _ rfl 44).1 (by decide) (by decide)
                      have := f1176.w
                      have := f1176.w2
                      have := ra_call I1146 J1172 (I1146.up h_o0) (k := 7) rfl rfl rfl ((880 + ra M0 o0 6 44).toNat)
                      have := ra_call I1146 J1172 (I1146.up h_o0) (k := 10) rfl rfl rfl ((880 + ra M0 o0 6 44).toNat)
                      have := ra_call I1146 J1172 (I1146.up h_o0) (k := 25) rfl rfl rfl ((rv M0 o0 24).toNat)
                      have := ra_call I1146 J1172 (I1146.up h_o0) (k := 26) rfl rfl rfl ((rv M0 o0 24).toNat)
                      have := ra_call I1146 J1172 (I1146.up h_o0) (k := 8) rfl rfl rfl ((880 + ra M0 o0 6 44).toNat)
                      have := ra_call I1146 J1172 (I1146.up h_o0) (k := 11) rfl rfl rfl ((880 + ra M0 o0 6 44).toNat)
                      have K1180 : rK M0 M1169 o0 ((880 + ra M0 o0 6 44).toNat) := K1152.same (sA_c I1146 J1172 (I1146.up h_o0) (by decide))
                      have K1181 : nN M1169 o0 := K1153.same (sA_c I1146 J1172 (I1146.up h_o0) (by decide)) (sF_c I1146 J1172 (I1146.up h_o0) (by decide))
                      have F1182 : rE M1129 M1169 o0 1 1 := F1154.trans f1176 (by decide) (R1132.2 5 _ _ rfl 44).1 (by decide) (by decide)
                      have q1183 := J1172.keep t1150 (by decide) q1155
                      have t1184 := J1172.up t1156
                      have q1185 := J1172.keep t1150 (by decide) q1157
                      have t1186 := J1172.up t1158
                      have q1187 := J1172.keep t1150 (by decide) q1159
                      have t1188 := J1172.up t1160
                      have q1189 := J1172.keep t1150 (by decide) q1161
                      have t1190 := J1172.up t1162
                      have q1191 := J1172.keep t1150 (by decide) q1163
                      have q1192 := J1172.keep t1150 (by decide) q1164
                      have t1193 := J1172.up t1165
                      have q1194 := J1172.keep t1150 (by decide) q1166
                      have t1195 := J1172.up t1167
                      refine mv_aload_n d_TrustDeskModel_readEnd_145 rfl rfl ?_
                      obtain ⟨a1197, q1196, t_a1197⟩ := tm_atR I1173 t1178 (k := 9) rfl
                      refine tr_getK q1196 d_TrustDeskModel_readEnd_146 f_TrustDeskModel_32_13 ?_
                      refine mv_iload_n d_TrustDeskModel_readEnd_149 rfl rfl ?_
                      refine mv_iconst (v := 0) d_TrustDeskModel_readEnd_150 (by decide) ?_
                      refine tr_iastR (k := 9) I1173 R1175 (I1173.up h_o0) q1196 t_a1197 (by decide) (by decide) (fun lo hi h => by cases h) (Or.inl (by decide)) d_TrustDeskModel_readEnd_151 (vp_in_iff.mpr (by have := R1175.1 15 _ _ rfl; have := R1175.1 16 _ _ rfl; have := R1175.1 19 _ _ rfl; have := E1179.f yS; omega)) (fun M1198 I1199 K1200 R1201 E1202 A1203 V1204 => ?_)
                      have := V1204 15
                      have := V1204 16
                      have := V1204 17
                      have := V1204 19
                      have := V1204 22
                      have := V1204 24
                      have := A1203 5 (by decide) rfl 44
                      have := A1203 6 (by decide) rfl 44
                      have E1205 : rE M0 M1198 o0 2 4 := E1179.same (fun k _ _ => V1204 k) (fun k h1 h2 => A1203 k (by omega) (by rcases (show k = 4 ∨ k = 5 by omega) with rfl | rfl <;> rfl))
                      have := A1203 7 (by decide) rfl ((880 + ra M0 o0 6 44).toNat)
                      have := A1203 10 (by decide) rfl ((880 + ra M0 o0 6 44).toNat)
                      have := A1203 25 (by decide) rfl ((rv M0 o0 24).toNat)
                      have := A1203 26 (by decide) rfl ((rv M0 o0 24).toNat)
                      have := A1203 8 (by decide) rfl ((880 + ra M0 o0 6 44).toNat)
                      have := A1203 11 (by decide) rfl ((880 + ra M0 o0 6 44).toNat)
                      have K1206 : rK M0 M1198 o0 ((880 + ra M0 o0 6 44).toNat) := K1180.same (sA_a A1203 (by decide))
                      have K1207 : nN M1198 o0 := K1181.same (sA_a A1203 (by decide)) (sF_a V1204)
                      have F1208 : rE M1129 M1198 o0 1 1 := F1182.same (fun k _ _ => V1204 k) (fun k h1 h2 => A1203 k (by omega) (by rcases (show k = 4 ∨ k = 5 by omega) with rfl | rfl <;> rfl))
                      refine mv_aload_n d_TrustDeskModel_readEnd_152 rfl rfl ?_
                      obtain ⟨_, b1209, -⟩ := I1199.1 _ _ t1178
                      refine mv_callV (kc1 := 0) (ks1 := 0) (kc' := 0) (ks' := 0) (As := []) (st9 := [.ref o0]) d_TrustDeskModel_readEnd_153 lV_TrustDeskModel_230 b1209 rfl (mj_enter (by decide) (Nat.le_of_ble_eq_true rfl) ?_) rfl (Nat.le_of_ble_eq_true rfl) (Nat.le_of_ble_eq_true rfl) (Nat.le_of_ble_eq_true rfl) (hst := rfl) (fun _ _ _ h => h)
                      refine mv_aload_n d_TrustDeskModel_isWell_0 rfl rfl ?_
                      obtain ⟨v1211, q1210⟩ := tm_atI I1199 t1178 (k := 19) rfl
                      refine tr_getK q1210 d_TrustDeskModel_isWell_1 f_TrustDeskModel_224_13 ?_
                      have := R1201.f (k := 19) q1210 rfl
                      have := tm_rv q1210
                      have := mz_hi v1211
                      refine mv_if_neZ (tgt := 11) (a := v1211.toInt) d_TrustDeskModel_isWell_4 (by decide) rfl (fun b1212 => ?_) (fun b1212 => ?_)
                      · refine mv_iconst (v := 0) d_TrustDeskModel_isWell_11 (by decide) ?_
                        refine mv_iret d_TrustDeskModel_isWell_12 rfl (by decide) ?_
                        refine mv_if_eq_t (tgt := 180) d_TrustDeskModel_readEnd_156 (by decide) (by decide) ?_
                        refine mv_vret d_TrustDeskModel_readEnd_180 rfl ?_
                        refine mv_goto (tgt := 165) d_TrustDeskModel_readClause_120 (by decide) ?_
                        refine mv_aload_n d_TrustDeskModel_readClause_165 rfl rfl ?_
                        refine mv_bipush (v := 59) d_TrustDeskModel_readClause_166 (by decide) ?_
                        obtain ⟨_, b1219, -⟩ := I1199.1 _ _ t1178
                        have : (59 : Int32).toInt = 59 := by decide
                        refine mv_callV (kc' := 0) (ks' := 0) (As := [.int 59]) (st9 := [.int 59, .ref o0]) d_TrustDeskModel_readClause_168 lV_TrustDeskModel_291 b1219 rfl (tc_TrustDeskModel_wantSign_x (d := (d + 23)) (x9 := x9) (o0 := o0) (x1 := 59) t1178 R1201 E1205.1 (by have := R1201.1 15 _ _ rfl; have := R1201.1 16 _ _ rfl; have := R1201.1 19 _ _ rfl; have := E1205.f yS; omega) I1199.start) rfl (Nat.le_of_ble_eq_true rfl) (Nat.le_of_ble_eq_true rfl) (Nat.le_of_ble_eq_true rfl) (hst := rfl) (fun b1213r M1214 n1215 b1213 => ?_)
                        obtain ⟨T1216, J1217, rfl, R1220, f1221⟩ := b1213
                        have I1218 := I1199.call J1217 (tm_sub (by decide)) (Or.inl rfl)
                        have t1222 := J1217.up t1178
                        have := (rv_c I1199 J1217 (I1199.up h_o0) (k := 22) rfl)
                        have := (rv_c I1199 J1217 (I1199.up h_o0) (k := 24) rfl)
                        have := ra_call I1199 J1217 (I1199.up h_o0) (k := 5) rfl rfl rfl 44
                        have := ra_call I1199 J1217 (I1199.up h_o0) (k := 6) rfl rfl rfl 44
                        have E1223 : rE M0 M1214 o0 2 5 := E1205.trans f1221 (by decide) (yR.2 5 _ _ rfl 44).1 (by decide) (by decide)
                        have := f1221.w
                        have := f1221.w2
                        have := ra_call I1199 J1217 (I1199.up h_o0) (k := 7) rfl rfl rfl ((880 + ra M0 o0 6 44).toNat)
                        have := ra_call I1199 J1217 (I1199.up h_o0) (k := 10) rfl rfl rfl ((880 + ra M0 o0 6 44).toNat)
                        have := ra_call I1199 J1217 (I1199.up h_o0) (k := 25) rfl rfl rfl ((rv M0 o0 24).toNat)
                        have := ra_call I1199 J1217 (I1199.up h_o0) (k := 26) rfl rfl rfl ((rv M0 o0 24).toNat)
                        have := ra_call I1199 J1217 (I1199.up h_o0) (k := 8) rfl rfl rfl ((880 + ra M0 o0 6 44).toNat)
                        have := ra_call I1199 J1217 (I1199.up h_o0) (k := 11) rfl rfl rfl ((880 + ra M0 o0 6 44).toNat)
                        have K1224 : rK M0 M1214 o0 ((880 + ra M0 o0 6 44).toNat) := K1206.same (sA_c I1199 J1217 (I1199.up h_o0) (by decide))
                        have K1225 : nN M1214 o0 := K1207.same (sA_c I1199 J1217 (I1199.up h_o0) (by decide)) (sF_c I1199 J1217 (I1199.up h_o0) (by decide))
                        have F1226 : rE M1129 M1214 o0 1 2 := F1208.trans f1221 (by decide) (R1132.2 5 _ _ rfl 44).1 (by decide) (by decide)
                        have q1227 := J1217.keep t1178 (by decide) (K1200 _ 13 6 _ q1183)
                        have t1228 := J1217.up t1184
                        have q1229 := J1217.keep t1178 (by decide) (K1200 _ 13 25 _ q1185)
                        have t1230 := J1217.up t1186
                        have q1231 := J1217.keep t1178 (by decide) (K1200 _ 13 26 _ q1187)
                        have t1232 := J1217.up t1188
                        have q1233 := J1217.keep t1178 (by decide) (K1200 _ 13 8 _ q1189)
                        have t1234 := J1217.up t1190
                        have q1235 := J1217.keep t1178 (by decide) (K1200 _ 13 24 _ q1191)
                        have q1236 := J1217.keep t1178 (by decide) (K1200 _ 13 11 _ q1192)
                        have t1237 := J1217.up t1193
                        have q1238 := J1217.keep t1178 (by decide) (K1200 _ 13 5 _ q1194)
                        have t1239 := J1217.up t1195
                        have q1240 := J1217.keep t1178 (by decide) (K1200 _ 13 9 _ q1196)
                        have t1241 := J1217.up t_a1197
                        refine mv_aload_n d_TrustDeskModel_readClause_171 rfl rfl ?_
                        obtain ⟨a1243, q1242, t_a1243⟩ := tm_atR I1218 t1222 (k := 12) rfl
                        refine tr_getK q1242 d_TrustDeskModel_readClause_172 f_TrustDeskModel_41_13 ?_
                        refine mv_iload_n d_TrustDeskModel_readClause_175 rfl rfl ?_
                        refine mv_aload_n d_TrustDeskModel_readClause_176 rfl rfl ?_
                        refine tr_getK (k := 5) q1238 d_TrustDeskModel_readClause_177 f_TrustDeskModel_20_13 ?_
                        refine mv_bipush (v := 44) d_TrustDeskModel_readClause_180 (by decide) ?_
                        refine tr_ialdR (o := o0) (k := 5) I1218 q1238 t1239 (by decide) d_TrustDeskModel_readClause_182 (by unfold vp_in; decide) (fun v1244 e1245 => ?_)
                        have := R1220.a (k := 5) rfl (44 : Int32).toNatClampNeg
                        have : v1244.toInt = ra M1214 o0 5 44 := e1245
                        refine tr_iastR (k := 12) I1218 R1220 (I1218.up h_o0) q1242 t_a1243 (by decide) (by decide) (fun lo hi h => by cases h; have := R1220.1 15 _ _ rfl; have := R1220.1 16 _ _ rfl; have := R1220.1 19 _ _ rfl; have := E1223.f yS; exact ⟨by show (0 : Int) ≤ v1244.toInt; omega, by show v1244.toInt ≤ (400 : Int); omega⟩) (Or.inl (by decide)) d_TrustDeskModel_readClause_183 (vp_in_iff.mpr (by have := R1220.1 15 _ _ rfl; have := R1220.1 16 _ _ rfl; have := R1220.1 19 _ _ rfl; have := E1223.f yS; omega)) (fun M1246 I1247 K1248 R1249 E1250 A1251 V1252 => ?_)
                        have := V1252 15
                        have := V1252 16
                        have := V1252 17
                        have := V1252 19
                        have := V1252 22
                        have := V1252 24
                        have := A1251 5 (by decide) rfl 44
                        have := A1251 6 (by decide) rfl 44
                        have E1253 : rE M0 M1246 o0 2 5 := E1223.same (fun k _ _ => V1252 k) (fun k h1 h2 => A1251 k (by omega) (by rcases (show k = 4 ∨ k = 5 by omega) with rfl | rfl <;> rfl))
                        have := A1251 7 (by decide) rfl ((880 + ra M0 o0 6 44).toNat)
                        have := A1251 10 (by decide) rfl ((880 + ra M0 o0 6 44).toNat)
                        have := A1251 25 (by decide) rfl ((rv M0 o0 24).toNat)
                        have := A1251 26 (by decide) rfl ((rv M0 o0 24).toNat)
                        have := A1251 8 (by decide) rfl ((880 + ra M0 o0 6 44).toNat)
                        have := A1251 11 (by decide) rfl ((880 + ra M0 o0 6 44).toNat)
                        have h1254 : (880 + ra M0 o0 6 44).toNat = v734.toNatClampNeg := by have := mz_nat9 (i := v734) (by have := R1220.1 15 _ _ rfl; have := R1220.1 16 _ _ rfl; have := R1220.1 19 _ _ rfl; have := E1223.f yS; omega); have := R1220.1 15 _ _ rfl; have := R1220.1 16 _ _ rfl; have := R1220.1 19 _ _ rfl; have := E1223.f yS; omega
                        have : ra M1246 o0 12 ((880 + ra M0 o0 6 44).toNat) = v1244.toInt := (E1250 _).trans (if_pos h1254)
                        have K1255 : rK M0 M1246 o0 ((880 + ra M0 o0 6 44).toNat) := K1224.st A1251 E1250 (by have := mz_nat9 (i := v734) (by have := R1220.1 15 _ _ rfl; have := R1220.1 16 _ _ rfl; have := R1220.1 19 _ _ rfl; have := E1223.f yS; omega); have := R1220.1 15 _ _ rfl; have := R1220.1 16 _ _ rfl; have := R1220.1 19 _ _ rfl; have := E1223.f yS; omega)
                        have K1256 : nN M1246 o0 := K1225.same (sA_a A1251 (by decide)) (sF_a V1252)
                        have F1257 : rE M1129 M1246 o0 1 2 := F1226.same (fun k _ _ => V1252 k) (fun k h1 h2 => A1251 k (by omega) (by rcases (show k = 4 ∨ k = 5 by omega) with rfl | rfl <;> rfl))
                        exact mv_vret d_TrustDeskModel_readClause_184 rfl ⟨_, I1247, rfl, R1249, (rW.of E1253.1 (fun w9 => (by have := R1249.1 15 _ _ rfl; have := R1249.1 16 _ _ rfl; have := R1249.1 19 _ _ rfl; have := E1253.f yS; omega)) (fun w9 => rG.step yG yR E1253 w9 K1255 (by have := yR.2 6 _ _ rfl 44; omega) (by have := R1249.1 15 _ _ rfl; have := R1249.1 16 _ _ rfl; have := R1249.1 19 _ _ rfl; have := E1253.f yS; omega) (by have := R1249.1 15 _ _ rfl; have := R1249.1 16 _ _ rfl; have := R1249.1 19 _ _ rfl; have := E1253.f yS; omega) (fun _ => rowN.of E1136 F1257 w9 (by decide) (by decide) (yR.2 5 _ _ rfl 44).1 (by have := R1249.1 15 _ _ rfl; have := R1249.1 16 _ _ rfl; have := R1249.1 19 _ _ rfl; have := E1253.f yS; omega) (by have := R1249.1 15 _ _ rfl; have := R1249.1 16 _ _ rfl; have := R1249.1 19 _ _ rfl; have := E1253.f yS; omega) (by have := R1249.1 15 _ _ rfl; have := R1249.1 16 _ _ rfl; have := R1249.1 19 _ _ rfl; have := E1253.f yS; omega)) (fun h9 => (by have := R1249.1 15 _ _ rfl; have := R1249.1 16 _ _ rfl; have := R1249.1 19 _ _ rfl; have := E1253.f yS; omega)) (by have := R1249.1 15 _ _ rfl; have := R1249.1 16 _ _ rfl; have := R1249.1 19 _ _ rfl; have := E1253.f yS; omega) K1256)), (rO.of E1253 K1255 (by have := yR.2 6 _ _ rfl 44; omega)), (by have := R1249.1 15 _ _ rfl; have := R1249.1 16 _ _ rfl; have := R1249.1 19 _ _ rfl; have := E1253.f yS; omega), (by have := R1249.1 15 _ _ rfl; have := R1249.1 16 _ _ rfl; have := R1249.1 19 _ _ rfl; have := E1253.f yS; omega), (fun _ _ => ⟨(by have := R1249.1 15 _ _ rfl; have := R1249.1 16 _ _ rfl; have := R1249.1 19 _ _ rfl; have := E1253.f yS; omega), (by have := R1249.1 15 _ _ rfl; have := R1249.1 16 _ _ rfl; have := R1249.1 19 _ _ rfl; have := E1253.f yS; omega)⟩)⟩
                      · refine mv_iconst (v := 1) d_TrustDeskModel_isWell_7 (by decide) ?_
                        refine mv_goto (tgt := 12) d_TrustDeskModel_isWell_8 (by decide) ?_
                        refine mv_iret d_TrustDeskModel_isWell_12 rfl (by decide) ?_
                        refine mv_if_eq_f (tgt := 180) d_TrustDeskModel_readEnd_156 (by decide) (by decide) ?_
                        refine mv_aload_n d_TrustDeskModel_readEnd_159 rfl rfl ?_
                        refine mv_ldcSw (id := 46) (tx := "part") d_TrustDeskModel_readEnd_160 (List.mem_of_getElem? (i := 36) rfl) ?_
                        obtain ⟨_, b1264, -⟩ := I1199.1 _ _ t1178
                        refine mv_callV (kc' := 0) (ks' := 0) (As := [.ref 46]) (st9 := [.ref 46, .ref o0]) d_TrustDeskModel_readEnd_163 lV_TrustDeskModel_244 b1264 rfl (tc_TrustDeskModel_isWord_s1_46_x (d := (d + 20)) (x9 := x9) (o0 := o0) t1178 R1201 I1199.start) rfl (Nat.le_of_ble_eq_true rfl) (Nat.le_of_ble_eq_true rfl) (Nat.le_of_ble_eq_true rfl) (hst := rfl) (fun b1258r M1259 n1260 b1258 => ?_)
                        obtain ⟨T1261, J1262, v1265, rfl, b1266, b1267, R1268, f1269⟩ := b1258
                        have I1263 := I1199.call J1262 (tm_sub (by decide)) (Or.inl rfl)
                        have t1270 := J1262.up t1178
                        have := (rv_c I1199 J1262 (I1199.up h_o0) (k := 15) rfl)
                        have := (rv_c I1199 J1262 (I1199.up h_o0) (k := 16) rfl)
                        have := (rv_c I1199 J1262 (I1199.up h_o0) (k := 17) rfl)
                        have := (rv_c I1199 J1262 (I1199.up h_o0) (k := 19) rfl)
                        have := (rv_c I1199 J1262 (I1199.up h_o0) (k := 22) rfl)
                        have := (rv_c I1199 J1262 (I1199.up h_o0) (k := 24) rfl)
                        have := ra_call I1199 J1262 (I1199.up h_o0) (k := 5) rfl rfl rfl 44
                        have := ra_call I1199 J1262 (I1199.up h_o0) (k := 6) rfl rfl rfl 44
                        have E1271 : rE M0 M1259 o0 2 4 := E1205.same (rE_hv I1199 J1262 (I1199.up h_o0) 15 19 (by decide)) (rE_ha I1199 J1262 (I1199.up h_o0) (by decide))
                        have := ra_call I1199 J1262 (I1199.up h_o0) (k := 7) rfl rfl rfl ((880 + ra M0 o0 6 44).toNat)
                        have := ra_call I1199 J1262 (I1199.up h_o0) (k := 10) rfl rfl rfl ((880 + ra M0 o0 6 44).toNat)
                        have := ra_call I1199 J1262 (I1199.up h_o0) (k := 25) rfl rfl rfl ((rv M0 o0 24).toNat)
                        have := ra_call I1199 J1262 (I1199.up h_o0) (k := 26) rfl rfl rfl ((rv M0 o0 24).toNat)
                        have := ra_call I1199 J1262 (I1199.up h_o0) (k := 8) rfl rfl rfl ((880 + ra M0 o0 6 44).toNat)
                        have := ra_call I1199 J1262 (I1199.up h_o0) (k := 11) rfl rfl rfl ((880 + ra M0 o0 6 44).toNat)
                        have K1272 : rK M0 M1259 o0 ((880 + ra M0 o0 6 44).toNat) := K1206.same (sA_c I1199 J1262 (I1199.up h_o0) (by decide))
                        have K1273 : nN M1259 o0 := K1207.same (sA_c I1199 J1262 (I1199.up h_o0) (by decide)) (sF_c I1199 J1262 (I1199.up h_o0) (by decide))
                        have F1274 : rE M1129 M1259 o0 1 1 := F1208.same (rE_hv I1199 J1262 (I1199.up h_o0) 15 19 (by decide)) (rE_ha I1199 J1262 (I1199.up h_o0) (by decide))
                        have q1275 := J1262.keep t1178 (by decide) (K1200 _ 13 6 _ q1183)
                        have t1276 := J1262.up t1184
                        have q1277 := J1262.keep t1178 (by decide) (K1200 _ 13 25 _ q1185)
                        have t1278 := J1262.up t1186
                        have q1279 := J1262.keep t1178 (by decide) (K1200 _ 13 26 _ q1187)
                        have t1280 := J1262.up t1188
                        have q1281 := J1262.keep t1178 (by decide) (K1200 _ 13 8 _ q1189)
                        have t1282 := J1262.up t1190
                        have q1283 := J1262.keep t1178 (by decide) (K1200 _ 13 24 _ q1191)
                        have q1284 := J1262.keep t1178 (by decide) (K1200 _ 13 11 _ q1192)
                        have t1285 := J1262.up t1193
                        have q1286 := J1262.keep t1178 (by decide) (K1200 _ 13 5 _ q1194)
                        have t1287 := J1262.up t1195
                        have q1288 := J1262.keep t1178 (by decide) (K1200 _ 13 9 _ q1196)
                        have t1289 := J1262.up t_a1197
                        have q1290 := J1262.keep t1178 (by decide) q1210
                        have := mz_hi v1265
                        refine mv_if_eqZ (tgt := 180) (a := v1265.toInt) d_TrustDeskModel_readEnd_166 (by decide) rfl (fun b1291 => ?_) (fun b1291 => ?_)
                        · refine mv_vret d_TrustDeskModel_readEnd_180 rfl ?_
                          refine mv_goto (tgt := 165) d_TrustDeskModel_readClause_120 (by decide) ?_
                          refine mv_aload_n d_TrustDeskModel_readClause_165 rfl rfl ?_
                          refine mv_bipush (v := 59) d_TrustDeskModel_readClause_166 (by decide) ?_
                          obtain ⟨_, b1298, -⟩ := I1263.1 _ _ t1270
                          have : (59 : Int32).toInt = 59 := by decide
                          refine mv_callV (kc' := 0) (ks' := 0) (As := [.int 59]) (st9 := [.int 59, .ref o0]) d_TrustDeskModel_readClause_168 lV_TrustDeskModel_291 b1298 rfl (tc_TrustDeskModel_wantSign_x (d := (d + 23)) (x9 := x9) (o0 := o0) (x1 := 59) t1270 R1268 E1271.1 (by have := R1268.1 15 _ _ rfl; have := R1268.1 16 _ _ rfl; have := R1268.1 19 _ _ rfl; have := E1271.f yS; omega) I1263.start) rfl (Nat.le_of_ble_eq_true rfl) (Nat.le_of_ble_eq_true rfl) (Nat.le_of_ble_eq_true rfl) (hst := rfl) (fun b1292r M1293 n1294 b1292 => ?_)
                          obtain ⟨T1295, J1296, rfl, R1299, f1300⟩ := b1292
                          have I1297 := I1263.call J1296 (tm_sub (by decide)) (Or.inl rfl)
                          have t1301 := J1296.up t1270
                          have := (rv_c I1263 J1296 (I1263.up h_o0) (k := 22) rfl)
                          have := (rv_c I1263 J1296 (I1263.up h_o0) (k := 24) rfl)
                          have := ra_call I1263 J1296 (I1263.up h_o0) (k := 5) rfl rfl rfl 44
                          have := ra_call I1263 J1296 (I1263.up h_o0) (k := 6) rfl rfl rfl 44
                          have E1302 : rE M0 M1293 o0 2 5 := E1271.trans f1300 (by decide) (yR.2 5 _ _ rfl 44).1 (by decide) (by decide)
                          have := f1300.w
                          have := f1300.w2
                          have := ra_call I1263 J1296 (I1263.up h_o0) (k := 7) rfl rfl rfl ((880 + ra M0 o0 6 44).toNat)
                          have := ra_call I1263 J1296 (I1263.up h_o0) (k := 10) rfl rfl rfl ((880 + ra M0 o0 6 44).toNat)
                          have := ra_call I1263 J1296 (I1263.up h_o0) (k := 25) rfl rfl rfl ((rv M0 o0 24).toNat)
                          have := ra_call I1263 J1296 (I1263.up h_o0) (k := 26) rfl rfl rfl ((rv M0 o0 24).toNat)
                          have := ra_call I1263 J1296 (I1263.up h_o0) (k := 8) rfl rfl rfl ((880 + ra M0 o0 6 44).toNat)
                          have := ra_call I1263 J1296 (I1263.up h_o0) (k := 11) rfl rfl rfl ((880 + ra M0 o0 6 44).toNat)
                          have K1303 : rK M0 M1293 o0 ((880 + ra M0 o0 6 44).toNat) := K1272.same (sA_c I1263 J1296 (I1263.up h_o0) (by decide))
                          have K1304 : nN M1293 o0 := K1273.same (sA_c I1263 J1296 (I1263.up h_o0) (by decide)) (sF_c I1263 J1296 (I1263.up h_o0) (by decide))
                          have F1305 : rE M1129 M1293 o0 1 2 := F1274.trans f1300 (by decide) (R1132.2 5 _ _ rfl 44).1 (by decide) (by decide)
                          have q1306 := J1296.keep t1270 (by decide) q1275
                          have t1307 := J1296.up t1276
                          have q1308 := J1296.keep t1270 (by decide) q1277
                          have t1309 := J1296.up t1278
                          have q1310 := J1296.keep t1270 (by decide) q1279
                          have t1311 := J1296.up t1280
                          have q1312 := J1296.keep t1270 (by decide) q1281
                          have t1313 := J1296.up t1282
                          have q1314 := J1296.keep t1270 (by decide) q1283
                          have q1315 := J1296.keep t1270 (by decide) q1284
                          have t1316 := J1296.up t1285
                          have q1317 := J1296.keep t1270 (by decide) q1286
                          have t1318 := J1296.up t1287
                          have q1319 := J1296.keep t1270 (by decide) q1288
                          have t1320 := J1296.up t1289
                          refine mv_aload_n d_TrustDeskModel_readClause_171 rfl rfl ?_
                          obtain ⟨a1322, q1321, t_a1322⟩ := tm_atR I1297 t1301 (k := 12) rfl
                          refine tr_getK q1321 d_TrustDeskModel_readClause_172 f_TrustDeskModel_41_13 ?_
                          refine mv_iload_n d_TrustDeskModel_readClause_175 rfl rfl ?_
                          refine mv_aload_n d_TrustDeskModel_readClause_176 rfl rfl ?_
                          refine tr_getK (k := 5) q1317 d_TrustDeskModel_readClause_177 f_TrustDeskModel_20_13 ?_
                          refine mv_bipush (v := 44) d_TrustDeskModel_readClause_180 (by decide) ?_
                          refine tr_ialdR (o := o0) (k := 5) I1297 q1317 t1318 (by decide) d_TrustDeskModel_readClause_182 (by unfold vp_in; decide) (fun v1323 e1324 => ?_)
                          have := R1299.a (k := 5) rfl (44 : Int32).toNatClampNeg
                          have : v1323.toInt = ra M1293 o0 5 44 := e1324
                          refine tr_iastR (k := 12) I1297 R1299 (I1297.up h_o0) q1321 t_a1322 (by decide) (by decide) (fun lo hi h => by cases h; have := R1299.1 15 _ _ rfl; have := R1299.1 16 _ _ rfl; have := R1299.1 19 _ _ rfl; have := E1302.f yS; exact ⟨by show (0 : Int) ≤ v1323.toInt; omega, by show v1323.toInt ≤ (400 : Int); omega⟩) (Or.inl (by decide)) d_TrustDeskModel_readClause_183 (vp_in_iff.mpr (by have := R1299.1 15 _ _ rfl; have := R1299.1 16 _ _ rfl; have := R1299.1 19 _ _ rfl; have := E1302.f yS; omega)) (fun M1325 I1326 K1327 R1328 E1329 A1330 V1331 => ?_)
                          have := V1331 15
                          have := V1331 16
                          have := V1331 17
                          have := V1331 19
                          have := V1331 22
                          have := V1331 24
                          have := A1330 5 (by decide) rfl 44
                          have := A1330 6 (by decide) rfl 44
                          have E1332 : rE M0 M1325 o0 2 5 := E1302.same (fun k _ _ => V1331 k) (fun k h1 h2 => A1330 k (by omega) (by rcases (show k = 4 ∨ k = 5 by omega) with rfl | rfl <;> rfl))
                          have := A1330 7 (by decide) rfl ((880 + ra M0 o0 6 44).toNat)
                          have := A1330 10 (by decide) rfl ((880 + ra M0 o0 6 44).toNat)
                          have := A1330 25 (by decide) rfl ((rv M0 o0 24).toNat)
                          have := A1330 26 (by decide) rfl ((rv M0 o0 24).toNat)
                          have := A1330 8 (by decide) rfl ((880 + ra M0 o0 6 44).toNat)
                          have := A1330 11 (by decide) rfl ((880 + ra M0 o0 6 44).toNat)
                          have h1333 : (880 + ra M0 o0 6 44).toNat = v734.toNatClampNeg := by have := mz_nat9 (i := v734) (by have := R1299.1 15 _ _ rfl; have := R1299.1 16 _ _ rfl; have := R1299.1 19 _ _ rfl; have := E1302.f yS; omega); have := R1299.1 15 _ _ rfl; have := R1299.1 16 _ _ rfl; have := R1299.1 19 _ _ rfl; have := E1302.f yS; omega
                          have : ra M1325 o0 12 ((880 + ra M0 o0 6 44).toNat) = v1323.toInt := (E1329 _).trans (if_pos h1333)
                          have K1334 : rK M0 M1325 o0 ((880 + ra M0 o0 6 44).toNat) := K1303.st A1330 E1329 (by have := mz_nat9 (i := v734) (by have := R1299.1 15 _ _ rfl; have := R1299.1 16 _ _ rfl; have := R1299.1 19 _ _ rfl; have := E1302.f yS; omega); have := R1299.1 15 _ _ rfl; have := R1299.1 16 _ _ rfl; have := R1299.1 19 _ _ rfl; have := E1302.f yS; omega)
                          have K1335 : nN M1325 o0 := K1304.same (sA_a A1330 (by decide)) (sF_a V1331)
                          have F1336 : rE M1129 M1325 o0 1 2 := F1305.same (fun k _ _ => V1331 k) (fun k h1 h2 => A1330 k (by omega) (by rcases (show k = 4 ∨ k = 5 by omega) with rfl | rfl <;> rfl))
                          exact mv_vret d_TrustDeskModel_readClause_184 rfl ⟨_, I1326, rfl, R1328, (rW.of E1332.1 (fun w9 => (by have := R1328.1 15 _ _ rfl; have := R1328.1 16 _ _ rfl; have := R1328.1 19 _ _ rfl; have := E1332.f yS; omega)) (fun w9 => rG.step yG yR E1332 w9 K1334 (by have := yR.2 6 _ _ rfl 44; omega) (by have := R1328.1 15 _ _ rfl; have := R1328.1 16 _ _ rfl; have := R1328.1 19 _ _ rfl; have := E1332.f yS; omega) (by have := R1328.1 15 _ _ rfl; have := R1328.1 16 _ _ rfl; have := R1328.1 19 _ _ rfl; have := E1332.f yS; omega) (fun _ => rowN.of E1136 F1336 w9 (by decide) (by decide) (yR.2 5 _ _ rfl 44).1 (by have := R1328.1 15 _ _ rfl; have := R1328.1 16 _ _ rfl; have := R1328.1 19 _ _ rfl; have := E1332.f yS; omega) (by have := R1328.1 15 _ _ rfl; have := R1328.1 16 _ _ rfl; have := R1328.1 19 _ _ rfl; have := E1332.f yS; omega) (by have := R1328.1 15 _ _ rfl; have := R1328.1 16 _ _ rfl; have := R1328.1 19 _ _ rfl; have := E1332.f yS; omega)) (fun h9 => (by have := R1328.1 15 _ _ rfl; have := R1328.1 16 _ _ rfl; have := R1328.1 19 _ _ rfl; have := E1332.f yS; omega)) (by have := R1328.1 15 _ _ rfl; have := R1328.1 16 _ _ rfl; have := R1328.1 19 _ _ rfl; have := E1332.f yS; omega) K1335)), (rO.of E1332 K1334 (by have := yR.2 6 _ _ rfl 44; omega)), (by have := R1328.1 15 _ _ rfl; have := R1328.1 16 _ _ rfl; have := R1328.1 19 _ _ rfl; have := E1332.f yS; omega), (by have := R1328.1 15 _ _ rfl; have := R1328.1 16 _ _ rfl; have := R1328.1 19 _ _ rfl; have := E1332.f yS; omega), (fun _ _ => ⟨(by have := R1328.1 15 _ _ rfl; have := R1328.1 16 _ _ rfl; have := R1328.1 19 _ _ rfl; have := E1332.f yS; omega), (by have := R1328.1 15 _ _ rfl; have := R1328.1 16 _ _ rfl; have := R1328.1 19 _ _ rfl; have := E1332.f yS; omega)⟩)⟩
                        · refine mv_aload_n d_TrustDeskModel_readEnd_169 rfl rfl ?_
                          refine tr_getK (k := 9) q1288 d_TrustDeskModel_readEnd_170 f_TrustDeskModel_32_13 ?_
                          refine mv_iload_n d_TrustDeskModel_readEnd_173 rfl rfl ?_
                          refine mv_iconst (v := 1) d_TrustDeskModel_readEnd_174 (by decide) ?_
                          refine tr_iastR (k := 9) I1263 R1268 (I1263.up h_o0) q1288 t1289 (by decide) (by decide) (fun lo hi h => by cases h) (Or.inl (by decide)) d_TrustDeskModel_readEnd_175 (vp_in_iff.mpr (by have := R1268.1 15 _ _ rfl; have := R1268.1 16 _ _ rfl; have := R1268.1 19 _ _ rfl; have := E1271.f yS; omega)) (fun M1337 I1338 K1339 R1340 E1341 A1342 V1343 => ?_)
                          have := V1343 15
                          have := V1343 16
                          have := V1343 17
                          have := V1343 19
                          have := V1343 22
                          have := V1343 24
                          have := A1342 5 (by decide) rfl 44
                          have := A1342 6 (by decide) rfl 44
                          have E1344 : rE M0 M1337 o0 2 4 := E1271.same (fun k _ _ => V1343 k) (fun k h1 h2 => A1342 k (by omega) (by rcases (show k = 4 ∨ k = 5 by omega) with rfl | rfl <;> rfl))
                          have := A1342 7 (by decide) rfl ((880 + ra M0 o0 6 44).toNat)
                          have := A1342 10 (by decide) rfl ((880 + ra M0 o0 6 44).toNat)
                          have := A1342 25 (by decide) rfl ((rv M0 o0 24).toNat)
                          have := A1342 26 (by decide) rfl ((rv M0 o0 24).toNat)
                          have := A1342 8 (by decide) rfl ((880 + ra M0 o0 6 44).toNat)
                          have := A1342 11 (by decide) rfl ((880 + ra M0 o0 6 44).toNat)
                          have K1345 : rK M0 M1337 o0 ((880 + ra M0 o0 6 44).toNat) := K1272.same (sA_a A1342 (by decide))
                          have K1346 : nN M1337 o0 := K1273.same (sA_a A1342 (by decide)) (sF_a V1343)
                          have F1347 : rE M1129 M1337 o0 1 1 := F1274.same (fun k _ _ => V1343 k) (fun k h1 h2 => A1342 k (by omega) (by rcases (show k = 4 ∨ k = 5 by omega) with rfl | rfl <;> rfl))
                          refine mv_aload_n d_TrustDeskModel_readEnd_176 rfl rfl ?_
                          obtain ⟨_, b1354, -⟩ := I1338.1 _ _ t1270
                          refine mv_callV (kc' := 0) (ks' := 0) (As := []) (st9 := [.ref o0]) d_TrustDeskModel_readEnd_177 lV_TrustDeskModel_237 b1354 rfl (tc_TrustDeskModel_next_x (d := (d + 23)) (x9 := x9) (o0 := o0) t1270 R1340 I1338.start) rfl (Nat.le_of_ble_eq_true rfl) (Nat.le_of_ble_eq_true rfl) (Nat.le_of_ble_eq_true rfl) (hst := rfl) (fun b1348r M1349 n1350 b1348 => ?_)
                          obtain ⟨T1351, J1352, rfl, R1355, f1356, f1357⟩ := b1348
                          have I1353 := I1338.call J1352 (tm_sub (by decide)) (Or.inl rfl)
                          have t1358 := J1352.up t1270
                          have := (rv_c I1338 J1352 (I1338.up h_o0) (k := 19) rfl)
                          have := (rv_c I1338 J1352 (I1338.up h_o0) (k := 22) rfl)
                          have := (rv_c I1338 J1352 (I1338.up h_o0) (k := 24) rfl)
                          have := ra_call I1338 J1352 (I1338.up h_o0) (k := 5) rfl rfl rfl 44
                          have := ra_call I1338 J1352 (I1338.up h_o0) (k := 6) rfl rfl rfl 44
                          have h1360 : rv M1337 o0 16 + 1 ≤ rv M1337 o0 15 := (by have := R1340.1 15 _ _ rfl; have := R1340.1 16 _ _ rfl; have := R1340.1 19 _ _ rfl; have := E1344.f yS; omega)
                          have E1359 : rE M0 M1349 o0 2 5 := E1344.next f1356 f1357 (rv_c I1338 J1352 (I1338.up h_o0) (k := 19) rfl) (rE_ha I1338 J1352 (I1338.up h_o0) (by decide)) (e := 1) h1360 (by decide)
                          have := ra_call I1338 J1352 (I1338.up h_o0) (k := 7) rfl rfl rfl ((880 + ra M0 o0 6 44).toNat)
                          have := ra_call I1338 J1352 (I1338.up h_o0) (k := 10) rfl rfl rfl ((880 + ra M0 o0 6 44).toNat)
                          have := ra_call I1338 J1352 (I1338.up h_o0) (k := 25) rfl rfl rfl ((rv M0 o0 24).toNat)
                          have := ra_call I1338 J1352 (I1338.up h_o0) (k := 26) rfl rfl rfl ((rv M0 o0 24).toNat)
                          have := ra_call I1338 J1352 (I1338.up h_o0) (k := 8) rfl rfl rfl ((880 + ra M0 o0 6 44).toNat)
                          have := ra_call I1338 J1352 (I1338.up h_o0) (k := 11) rfl rfl rfl ((880 + ra M0 o0 6 44).toNat)
                          have K1361 : rK M0 M1349 o0 ((880 + ra M0 o0 6 44).toNat) := K1345.same (sA_c I1338 J1352 (I1338.up h_o0) (by decide))
                          have K1362 : nN M1349 o0 := K1346.same (sA_c I1338 J1352 (I1338.up h_o0) (by decide)) (sF_c I1338 J1352 (I1338.up h_o0) (by decide))
                          have F1363 : rE M1129 M1349 o0 1 2 := F1347.next f1356 f1357 (rv_c I1338 J1352 (I1338.up h_o0) (k := 19) rfl) (rE_ha I1338 J1352 (I1338.up h_o0) (by decide)) (e := 1) (by have := R1340.1 15 _ _ rfl; have := R1340.1 16 _ _ rfl; have := R1340.1 19 _ _ rfl; have := E1344.f yS; omega) (by decide)
                          have q1364 := J1352.keep t1270 (by decide) (K1339 _ 13 6 _ q1275)
                          have t1365 := J1352.up t1276
                          have q1366 := J1352.keep t1270 (by decide) (K1339 _ 13 25 _ q1277)
                          have t1367 := J1352.up t1278
                          have q1368 := J1352.keep t1270 (by decide) (K1339 _ 13 26 _ q1279)
                          have t1369 := J1352.up t1280
                          have q1370 := J1352.keep t1270 (by decide) (K1339 _ 13 8 _ q1281)
                          have t1371 := J1352.up t1282
                          have q1372 := J1352.keep t1270 (by decide) (K1339 _ 13 24 _ q1283)
                          have q1373 := J1352.keep t1270 (by decide) (K1339 _ 13 11 _ q1284)
                          have t1374 := J1352.up t1285
                          have q1375 := J1352.keep t1270 (by decide) (K1339 _ 13 5 _ q1286)
                          have t1376 := J1352.up t1287
                          have q1377 := J1352.keep t1270 (by decide) (K1339 _ 13 9 _ q1288)
                          have t1378 := J1352.up t1289
                          have q1379 := J1352.keep t1270 (by decide) (K1339 _ 13 19 _ q1290)
                          refine mv_vret d_TrustDeskModel_readEnd_180 rfl ?_
                          refine mv_goto (tgt := 165) d_TrustDeskModel_readClause_120 (by decide) ?_
                          refine mv_aload_n d_TrustDeskModel_readClause_165 rfl rfl ?_
                          refine mv_bipush (v := 59) d_TrustDeskModel_readClause_166 (by decide) ?_
                          obtain ⟨_, b1386, -⟩ := I1353.1 _ _ t1358
                          have : (59 : Int32).toInt = 59 := by decide
                          refine mv_callV (kc' := 0) (ks' := 0) (As := [.int 59]) (st9 := [.int 59, .ref o0]) d_TrustDeskModel_readClause_168 lV_TrustDeskModel_291 b1386 rfl (tc_TrustDeskModel_wantSign_x (d := (d + 23)) (x9 := x9) (o0 := o0) (x1 := 59) t1358 R1355 E1359.1 (by have := R1355.1 15 _ _ rfl; have := R1355.1 16 _ _ rfl; have := R1355.1 19 _ _ rfl; have := E1359.f yS; omega) I1353.start) rfl (Nat.le_of_ble_eq_true rfl) (Nat.le_of_ble_eq_true rfl) (Nat.le_of_ble_eq_true rfl) (hst := rfl) (fun b1380r M1381 n1382 b1380 => ?_)
                          obtain ⟨T1383, J1384, rfl, R1387, f1388⟩ := b1380
                          have I1385 := I1353.call J1384 (tm_sub (by decide)) (Or.inl rfl)
                          have t1389 := J1384.up t1358
                          have := (rv_c I1353 J1384 (I1353.up h_o0) (k := 22) rfl)
                          have := (rv_c I1353 J1384 (I1353.up h_o0) (k := 24) rfl)
                          have := ra_call I1353 J1384 (I1353.up h_o0) (k := 5) rfl rfl rfl 44
                          have := ra_call I1353 J1384 (I1353.up h_o0) (k := 6) rfl rfl rfl 44
                          have E1390 : rE M0 M1381 o0 2 6 := E1359.trans f1388 (by decide) (yR.2 5 _ _ rfl 44).1 (by decide) (by decide)
                          have := f1388.w
                          have := f1388.w2
                          have := ra_call I1353 J1384 (I1353.up h_o0) (k := 7) rfl rfl rfl ((880 + ra M0 o0 6 44).toNat)
                          have := ra_call I1353 J1384 (I1353.up h_o0) (k := 10) rfl rfl rfl ((880 + ra M0 o0 6 44).toNat)
                          have := ra_call I1353 J1384 (I1353.up h_o0) (k := 25) rfl rfl rfl ((rv M0 o0 24).toNat)
                          have := ra_call I1353 J1384 (I1353.up h_o0) (k := 26) rfl rfl rfl ((rv M0 o0 24).toNat)
                          have := ra_call I1353 J1384 (I1353.up h_o0) (k := 8) rfl rfl rfl ((880 + ra M0 o0 6 44).toNat)
                          have := ra_call I1353 J1384 (I1353.up h_o0) (k := 11) rfl rfl rfl ((880 + ra M0 o0 6 44).toNat)
                          have K1391 : rK M0 M1381 o0 ((880 + ra M0 o0 6 44).toNat) := K1361.same (sA_c I1353 J1384 (I1353.up h_o0) (by decide))
                          have K1392 : nN M1381 o0 := K1362.same (sA_c I1353 J1384 (I1353.up h_o0) (by decide)) (sF_c I1353 J1384 (I1353.up h_o0) (by decide))
                          have F1393 : rE M1129 M1381 o0 1 3 := F1363.trans f1388 (by decide) (R1132.2 5 _ _ rfl 44).1 (by decide) (by decide)
                          have q1394 := J1384.keep t1358 (by decide) q1364
                          have t1395 := J1384.up t1365
                          have q1396 := J1384.keep t1358 (by decide) q1366
                          have t1397 := J1384.up t1367
                          have q1398 := J1384.keep t1358 (by decide) q1368
                          have t1399 := J1384.up t1369
                          have q1400 := J1384.keep t1358 (by decide) q1370
                          have t1401 := J1384.up t1371
                          have q1402 := J1384.keep t1358 (by decide) q1372
                          have q1403 := J1384.keep t1358 (by decide) q1373
                          have t1404 := J1384.up t1374
                          have q1405 := J1384.keep t1358 (by decide) q1375
                          have t1406 := J1384.up t1376
                          have q1407 := J1384.keep t1358 (by decide) q1377
                          have t1408 := J1384.up t1378
                          refine mv_aload_n d_TrustDeskModel_readClause_171 rfl rfl ?_
                          obtain ⟨a1410, q1409, t_a1410⟩ := tm_atR I1385 t1389 (k := 12) rfl
                          refine tr_getK q1409 d_TrustDeskModel_readClause_172 f_TrustDeskModel_41_13 ?_
                          refine mv_iload_n d_TrustDeskModel_readClause_175 rfl rfl ?_
                          refine mv_aload_n d_TrustDeskModel_readClause_176 rfl rfl ?_
                          refine tr_getK (k := 5) q1405 d_TrustDeskModel_readClause_177 f_TrustDeskModel_20_13 ?_
                          refine mv_bipush (v := 44) d_TrustDeskModel_readClause_180 (by decide) ?_
                          refine tr_ialdR (o := o0) (k := 5) I1385 q1405 t1406 (by decide) d_TrustDeskModel_readClause_182 (by unfold vp_in; decide) (fun v1411 e1412 => ?_)
                          have := R1387.a (k := 5) rfl (44 : Int32).toNatClampNeg
                          have : v1411.toInt = ra M1381 o0 5 44 := e1412
                          refine tr_iastR (k := 12) I1385 R1387 (I1385.up h_o0) q1409 t_a1410 (by decide) (by decide) (fun lo hi h => by cases h; have := R1387.1 15 _ _ rfl; have := R1387.1 16 _ _ rfl; have := R1387.1 19 _ _ rfl; have := E1390.f yS; exact ⟨by show (0 : Int) ≤ v1411.toInt; omega, by show v1411.toInt ≤ (400 : Int); omega⟩) (Or.inl (by decide)) d_TrustDeskModel_readClause_183 (vp_in_iff.mpr (by have := R1387.1 15 _ _ rfl; have := R1387.1 16 _ _ rfl; have := R1387.1 19 _ _ rfl; have := E1390.f yS; omega)) (fun M1413 I1414 K1415 R1416 E1417 A1418 V1419 => ?_)
                          have := V1419 15
                          have := V1419 16
                          have := V1419 17
                          have := V1419 19
                          have := V1419 22
                          have := V1419 24
                          have := A1418 5 (by decide) rfl 44
                          have := A1418 6 (by decide) rfl 44
                          have E1420 : rE M0 M1413 o0 2 6 := E1390.same (fun k _ _ => V1419 k) (fun k h1 h2 => A1418 k (by omega) (by rcases (show k = 4 ∨ k = 5 by omega) with rfl | rfl <;> rfl))
                          have := A1418 7 (by decide) rfl ((880 + ra M0 o0 6 44).toNat)
                          have := A1418 10 (by decide) rfl ((880 + ra M0 o0 6 44).toNat)
                          have := A1418 25 (by decide) rfl ((rv M0 o0 24).toNat)
                          have := A1418 26 (by decide) rfl ((rv M0 o0 24).toNat)
                          have := A1418 8 (by decide) rfl ((880 + ra M0 o0 6 44).toNat)
                          have := A1418 11 (by decide) rfl ((880 + ra M0 o0 6 44).toNat)
                          have h1421 : (880 + ra M0 o0 6 44).toNat = v734.toNatClampNeg := by have := mz_nat9 (i := v734) (by have := R1387.1 15 _ _ rfl; have := R1387.1 16 _ _ rfl; have := R1387.1 19 _ _ rfl; have := E1390.f yS; omega); have := R1387.1 15 _ _ rfl; have := R1387.1 16 _ _ rfl; have := R1387.1 19 _ _ rfl; have := E1390.f yS; omega
                          have : ra M1413 o0 12 ((880 + ra M0 o0 6 44).toNat) = v1411.toInt := (E1417 _).trans (if_pos h1421)
                          have K1422 : rK M0 M1413 o0 ((880 + ra M0 o0 6 44).toNat) := K1391.st A1418 E1417 (by have := mz_nat9 (i := v734) (by have := R1387.1 15 _ _ rfl; have := R1387.1 16 _ _ rfl; have := R1387.1 19 _ _ rfl; have := E1390.f yS; omega); have := R1387.1 15 _ _ rfl; have := R1387.1 16 _ _ rfl; have := R1387.1 19 _ _ rfl; have := E1390.f yS; omega)
                          have K1423 : nN M1413 o0 := K1392.same (sA_a A1418 (by decide)) (sF_a V1419)
                          have F1424 : rE M1129 M1413 o0 1 3 := F1393.same (fun k _ _ => V1419 k) (fun k h1 h2 => A1418 k (by omega) (by rcases (show k = 4 ∨ k = 5 by omega) with rfl | rfl <;> rfl))
                          exact mv_vret d_TrustDeskModel_readClause_184 rfl ⟨_, I1414, rfl, R1416, (rW.of E1420.1 (fun w9 => (by have := R1416.1 15 _ _ rfl; have := R1416.1 16 _ _ rfl; have := R1416.1 19 _ _ rfl; have := E1420.f yS; omega)) (fun w9 => rG.step yG yR E1420 w9 K1422 (by have := yR.2 6 _ _ rfl 44; omega) (by have := R1416.1 15 _ _ rfl; have := R1416.1 16 _ _ rfl; have := R1416.1 19 _ _ rfl; have := E1420.f yS; omega) (by have := R1416.1 15 _ _ rfl; have := R1416.1 16 _ _ rfl; have := R1416.1 19 _ _ rfl; have := E1420.f yS; omega) (fun _ => rowN.of E1136 F1424 w9 (by decide) (by decide) (yR.2 5 _ _ rfl 44).1 (by have := R1416.1 15 _ _ rfl; have := R1416.1 16 _ _ rfl; have := R1416.1 19 _ _ rfl; have := E1420.f yS; omega) (by have := R1416.1 15 _ _ rfl; have := R1416.1 16 _ _ rfl; have := R1416.1 19 _ _ rfl; have := E1420.f yS; omega) (by have := R1416.1 15 _ _ rfl; have := R1416.1 16 _ _ rfl; have := R1416.1 19 _ _ rfl; have := E1420.f yS; omega)) (fun h9 => (by have := R1416.1 15 _ _ rfl; have := R1416.1 16 _ _ rfl; have := R1416.1 19 _ _ rfl; have := E1420.f yS; omega)) (by have := R1416.1 15 _ _ rfl; have := R1416.1 16 _ _ rfl; have := R1416.1 19 _ _ rfl; have := E1420.f yS; omega) K1423)), (rO.of E1420 K1422 (by have := yR.2 6 _ _ rfl 44; omega)), (by have := R1416.1 15 _ _ rfl; have := R1416.1 16 _ _ rfl; have := R1416.1 19 _ _ rfl; have := E1420.f yS; omega), (by have := R1416.1 15 _ _ rfl; have := R1416.1 16 _ _ rfl; have := R1416.1 19 _ _ rfl; have := E1420.f yS; omega), (fun _ _ => ⟨(by have := R1416.1 15 _ _ rfl; have := R1416.1 16 _ _ rfl; have := R1416.1 19 _ _ rfl; have := E1420.f yS; omega), (by have := R1416.1 15 _ _ rfl; have := R1416.1 16 _ _ rfl; have := R1416.1 19 _ _ rfl; have := E1420.f yS; omega)⟩)⟩
                    · refine mv_aload_n d_TrustDeskModel_readEnd_37 rfl rfl ?_
                      refine mv_iconst (v := 3) d_TrustDeskModel_readEnd_38 (by decide) ?_
                      obtain ⟨_, b1431, -⟩ := I981.1 _ _ t987
                      have : (3 : Int32).toInt = 3 := by decide
                      refine mv_callV (kc' := 0) (ks' := 0) (As := [.int 3]) (st9 := [.int 3, .ref o0]) d_TrustDeskModel_readEnd_39 lV_TrustDeskModel_240 b1431 rfl (tc_TrustDeskModel_fails_x (d := (d + 24)) (x9 := x9) (o0 := o0) (x1 := 3) t987 R986 (by decide) I981.start) rfl (Nat.le_of_ble_eq_true rfl) (Nat.le_of_ble_eq_true rfl) (Nat.le_of_ble_eq_true rfl) (hst := rfl) (fun b1425r M1426 n1427 b1425 => ?_)
                      obtain ⟨T1428, J1429, rfl, R1432, f1433⟩ := b1425
                      have I1430 := I981.call J1429 (tm_sub (by decide)) (Or.inl rfl)
                      have t1434 := J1429.up t987
                      have := (rv_c I981 J1429 (I981.up h_o0) (k := 15) rfl)
                      have := (rv_c I981 J1429 (I981.up h_o0) (k := 16) rfl)
                      have := (rv_c I981 J1429 (I981.up h_o0) (k := 17) rfl)
                      have := (rv_c I981 J1429 (I981.up h_o0) (k := 22) rfl)
                      have := (rv_c I981 J1429 (I981.up h_o0) (k := 24) rfl)
                      have := ra_call I981 J1429 (I981.up h_o0) (k := 5) rfl rfl rfl 44
                      have := ra_call I981 J1429 (I981.up h_o0) (k := 6) rfl rfl rfl 44
                      have E1435 : rE M0 M1426 o0 0 1 := E988.fails (rE_hv I981 J1429 (I981.up h_o0) 15 18 (by decide)) (rE_ha I981 J1429 (I981.up h_o0) (by decide)) f1433 0 1
                      have := ra_call I981 J1429 (I981.up h_o0) (k := 7) rfl rfl rfl ((880 + ra M0 o0 6 44).toNat)
                      have := ra_call I981 J1429 (I981.up h_o0) (k := 10) rfl rfl rfl ((880 + ra M0 o0 6 44).toNat)
                      have K1436 : rK M0 M1426 o0 ((880 + ra M0 o0 6 44).toNat) := K989.same (sA_c I981 J1429 (I981.up h_o0) (by decide))
                      have K1437 : nN M1426 o0 := K990.same (sA_c I981 J1429 (I981.up h_o0) (by decide)) (sF_c I981 J1429 (I981.up h_o0) (by decide))
                      have q1438 := J1429.keep t987 (by decide) q991
                      have t1439 := J1429.up t992
                      have q1440 := J1429.keep t987 (by decide) q993
                      have q1441 := J1429.keep t987 (by decide) q995
                      have q1442 := J1429.keep t987 (by decide) q996
                      have q1443 := J1429.keep t987 (by decide) q997
                      refine mv_aload_n d_TrustDeskModel_readEnd_42 rfl rfl ?_
                      obtain ⟨_, b1444, -⟩ := I1430.1 _ _ t1434
                      refine mv_callV (kc1 := 0) (ks1 := 0) (kc' := 0) (ks' := 0) (As := []) (st9 := [.ref o0]) d_TrustDeskModel_readEnd_43 lV_TrustDeskModel_230 b1444 rfl (mj_enter (by decide) (Nat.le_of_ble_eq_true rfl) ?_) rfl (Nat.le_of_ble_eq_true rfl) (Nat.le_of_ble_eq_true rfl) (Nat.le_of_ble_eq_true rfl) (hst := rfl) (fun _ _ _ h => h)
                      refine mv_aload_n d_TrustDeskModel_isWell_0 rfl rfl ?_
                      obtain ⟨v1446, q1445⟩ := tm_atI I1430 t1434 (k := 19) rfl
                      refine tr_getK q1445 d_TrustDeskModel_isWell_1 f_TrustDeskModel_224_13 ?_
                      have := R1432.f (k := 19) q1445 rfl
                      have := tm_rv q1445
                      refine mv_if_neZ (tgt := 11) (a := v1446.toInt) d_TrustDeskModel_isWell_4 (by decide) rfl (fun b1447 => ?_) (fun b1447 => ?_)
                      · refine mv_iconst (v := 0) d_TrustDeskModel_isWell_11 (by decide) ?_
                        refine mv_iret d_TrustDeskModel_isWell_12 rfl (by decide) ?_
                        refine mv_if_ne_f (tgt := 50) d_TrustDeskModel_readEnd_46 (by decide) (by decide) ?_
                        refine mv_vret d_TrustDeskModel_readEnd_49 rfl ?_
                        refine mv_goto (tgt := 165) d_TrustDeskModel_readClause_120 (by decide) ?_
                        refine mv_aload_n d_TrustDeskModel_readClause_165 rfl rfl ?_
                        refine mv_bipush (v := 59) d_TrustDeskModel_readClause_166 (by decide) ?_
                        obtain ⟨_, b1454, -⟩ := I1430.1 _ _ t1434
                        have : (59 : Int32).toInt = 59 := by decide
                        refine mv_callV (kc' := 0) (ks' := 0) (As := [.int 59]) (st9 := [.int 59, .ref o0]) d_TrustDeskModel_readClause_168 lV_TrustDeskModel_291 b1454 rfl (tc_TrustDeskModel_wantSign_x (d := (d + 23)) (x9 := x9) (o0 := o0) (x1 := 59) t1434 R1432 E1435.1 (by have := R1432.1 15 _ _ rfl; have := R1432.1 16 _ _ rfl; have := R1432.1 19 _ _ rfl; have := E1435.f yS; omega) I1430.start) rfl (Nat.le_of_ble_eq_true rfl) (Nat.le_of_ble_eq_true rfl) (Nat.le_of_ble_eq_true rfl) (hst := rfl) (fun b1448r M1449 n1450 b1448 => ?_)
                        obtain ⟨T1451, J1452, rfl, R1455, f1456⟩ := b1448
                        have I1453 := I1430.call J1452 (tm_sub (by decide)) (Or.inl rfl)
                        have t1457 := J1452.up t1434
                        have := (rv_c I1430 J1452 (I1430.up h_o0) (k := 22) rfl)
                        have := (rv_c I1430 J1452 (I1430.up h_o0) (k := 24) rfl)
                        have := ra_call I1430 J1452 (I1430.up h_o0) (k := 5) rfl rfl rfl 44
                        have := ra_call I1430 J1452 (I1430.up h_o0) (k := 6) rfl rfl rfl 44
                        have E1458 : rE M0 M1449 o0 0 2 := E1435.trans f1456 (by decide) (yR.2 5 _ _ rfl 44).1 (by decide) (by decide)
                        have := f1456.w
                        have := f1456.w2
                        have := ra_call I1430 J1452 (I1430.up h_o0) (k := 7) rfl rfl rfl ((880 + ra M0 o0 6 44).toNat)
                        have := ra_call I1430 J1452 (I1430.up h_o0) (k := 10) rfl rfl rfl ((880 + ra M0 o0 6 44).toNat)
                        have K1459 : rK M0 M1449 o0 ((880 + ra M0 o0 6 44).toNat) := K1436.same (sA_c I1430 J1452 (I1430.up h_o0) (by decide))
                        have K1460 : nN M1449 o0 := K1437.same (sA_c I1430 J1452 (I1430.up h_o0) (by decide)) (sF_c I1430 J1452 (I1430.up h_o0) (by decide))
                        have q1461 := J1452.keep t1434 (by decide) q1438
                        have t1462 := J1452.up t1439
                        have q1463 := J1452.keep t1434 (by decide) q1440
                        refine mv_aload_n d_TrustDeskModel_readClause_171 rfl rfl ?_
                        obtain ⟨a1465, q1464, t_a1465⟩ := tm_atR I1453 t1457 (k := 12) rfl
                        refine tr_getK q1464 d_TrustDeskModel_readClause_172 f_TrustDeskModel_41_13 ?_
                        refine mv_iload_n d_TrustDeskModel_readClause_175 rfl rfl ?_
                        refine mv_aload_n d_TrustDeskModel_readClause_176 rfl rfl ?_
                        obtain ⟨a1467, q1466, t_a1467⟩ := tm_atR I1453 t1457 (k := 5) rfl
                        refine tr_getK q1466 d_TrustDeskModel_readClause_177 f_TrustDeskModel_20_13 ?_
                        refine mv_bipush (v := 44) d_TrustDeskModel_readClause_180 (by decide) ?_
                        refine tr_ialdR (o := o0) (k := 5) I1453 q1466 t_a1467 (by decide) d_TrustDeskModel_readClause_182 (by unfold vp_in; decide) (fun v1468 e1469 => ?_)
                        have := R1455.a (k := 5) rfl (44 : Int32).toNatClampNeg
                        have : v1468.toInt = ra M1449 o0 5 44 := e1469
                        refine tr_iastR (k := 12) I1453 R1455 (I1453.up h_o0) q1464 t_a1465 (by decide) (by decide) (fun lo hi h => by cases h; have := R1455.1 15 _ _ rfl; have := R1455.1 16 _ _ rfl; have := R1455.1 19 _ _ rfl; have := E1458.f yS; exact ⟨by show (0 : Int) ≤ v1468.toInt; omega, by show v1468.toInt ≤ (400 : Int); omega⟩) (Or.inl (by decide)) d_TrustDeskModel_readClause_183 (vp_in_iff.mpr (by have := R1455.1 15 _ _ rfl; have := R1455.1 16 _ _ rfl; have := R1455.1 19 _ _ rfl; have := E1458.f yS; omega)) (fun M1470 I1471 K1472 R1473 E1474 A1475 V1476 => ?_)
                        have := V1476 15
                        have := V1476 16
                        have := V1476 17
                        have := V1476 19
                        have := V1476 22
                        have := V1476 24
                        have := A1475 5 (by decide) rfl 44
                        have := A1475 6 (by decide) rfl 44
                        have E1477 : rE M0 M1470 o0 0 2 := E1458.same (fun k _ _ => V1476 k) (fun k h1 h2 => A1475 k (by omega) (by rcases (show k = 4 ∨ k = 5 by omega) with rfl | rfl <;> rfl))
                        have := A1475 7 (by decide) rfl ((880 + ra M0 o0 6 44).toNat)
                        have := A1475 10 (by decide) rfl ((880 + ra M0 o0 6 44).toNat)
                        have h1478 : (880 + ra M0 o0 6 44).toNat = v734.toNatClampNeg := by have := mz_nat9 (i := v734) (by have := R1455.1 15 _ _ rfl; have := R1455.1 16 _ _ rfl; have := R1455.1 19 _ _ rfl; have := E1458.f yS; omega); have := R1455.1 15 _ _ rfl; have := R1455.1 16 _ _ rfl; have := R1455.1 19 _ _ rfl; have := E1458.f yS; omega
                        have : ra M1470 o0 12 ((880 + ra M0 o0 6 44).toNat) = v1468.toInt := (E1474 _).trans (if_pos h1478)
                        have K1479 : rK M0 M1470 o0 ((880 + ra M0 o0 6 44).toNat) := K1459.st A1475 E1474 (by have := mz_nat9 (i := v734) (by have := R1455.1 15 _ _ rfl; have := R1455.1 16 _ _ rfl; have := R1455.1 19 _ _ rfl; have := E1458.f yS; omega); have := R1455.1 15 _ _ rfl; have := R1455.1 16 _ _ rfl; have := R1455.1 19 _ _ rfl; have := E1458.f yS; omega)
                        have K1480 : nN M1470 o0 := K1460.same (sA_a A1475 (by decide)) (sF_a V1476)
                        exact mv_vret d_TrustDeskModel_readClause_184 rfl ⟨_, I1471, rfl, R1473, (rW.of E1477.1 (fun h9 => absurd h9 (by have := R1473.1 15 _ _ rfl; have := R1473.1 16 _ _ rfl; have := R1473.1 19 _ _ rfl; have := E1477.f yS; omega)) (fun h9 => absurd h9 (by have := R1473.1 15 _ _ rfl; have := R1473.1 16 _ _ rfl; have := R1473.1 19 _ _ rfl; have := E1477.f yS; omega))), (rO.of E1477 K1479 (by have := yR.2 6 _ _ rfl 44; omega)), (by have := R1473.1 15 _ _ rfl; have := R1473.1 16 _ _ rfl; have := R1473.1 19 _ _ rfl; have := E1477.f yS; omega), (by have := R1473.1 15 _ _ rfl; have := R1473.1 16 _ _ rfl; have := R1473.1 19 _ _ rfl; have := E1477.f yS; omega), (fun _ h9 => absurd h9 (by have := R1473.1 15 _ _ rfl; have := R1473.1 16 _ _ rfl; have := R1473.1 19 _ _ rfl; have := E1477.f yS; omega))⟩
                      · exfalso
                        have := R1432.1 15 _ _ rfl; have := R1432.1 16 _ _ rfl; have := R1432.1 19 _ _ rfl; have := E1435.f yS; omega
                  · refine mv_aload_n d_TrustDeskModel_readEnd_22 rfl rfl ?_
                    refine mv_iconst (v := 1) d_TrustDeskModel_readEnd_23 (by decide) ?_
                    obtain ⟨_, b1487, -⟩ := I732.1 _ _ t742
                    have : (1 : Int32).toInt = 1 := by decide
                    refine mv_callV (kc' := 0) (ks' := 0) (As := [.int 1]) (st9 := [.int 1, .ref o0]) d_TrustDeskModel_readEnd_24 lV_TrustDeskModel_240 b1487 rfl (tc_TrustDeskModel_fails_x (d := (d + 24)) (x9 := x9) (o0 := o0) (x1 := 1) t742 R735 (by decide) I732.start) rfl (Nat.le_of_ble_eq_true rfl) (Nat.le_of_ble_eq_true rfl) (Nat.le_of_ble_eq_true rfl) (hst := rfl) (fun b1481r M1482 n1483 b1481 => ?_)
                    obtain ⟨T1484, J1485, rfl, R1488, f1489⟩ := b1481
                    have I1486 := I732.call J1485 (tm_sub (by decide)) (Or.inl rfl)
                    have t1490 := J1485.up t742
                    have := (rv_c I732 J1485 (I732.up h_o0) (k := 15) rfl)
                    have := (rv_c I732 J1485 (I732.up h_o0) (k := 16) rfl)
                    have := (rv_c I732 J1485 (I732.up h_o0) (k := 17) rfl)
                    have := (rv_c I732 J1485 (I732.up h_o0) (k := 22) rfl)
                    have := (rv_c I732 J1485 (I732.up h_o0) (k := 24) rfl)
                    have := ra_call I732 J1485 (I732.up h_o0) (k := 5) rfl rfl rfl 44
                    have := ra_call I732 J1485 (I732.up h_o0) (k := 6) rfl rfl rfl 44
                    have E1491 : rE M0 M1482 o0 0 1 := E743.fails (rE_hv I732 J1485 (I732.up h_o0) 15 18 (by decide)) (rE_ha I732 J1485 (I732.up h_o0) (by decide)) f1489 0 1
                    have := ra_call I732 J1485 (I732.up h_o0) (k := 7) rfl rfl rfl ((880 + ra M0 o0 6 44).toNat)
                    have := ra_call I732 J1485 (I732.up h_o0) (k := 10) rfl rfl rfl ((880 + ra M0 o0 6 44).toNat)
                    have K1492 : rK M0 M1482 o0 ((880 + ra M0 o0 6 44).toNat) := K745.same (sA_c I732 J1485 (I732.up h_o0) (by decide))
                    have K1493 : nN M1482 o0 := K746.same (sA_c I732 J1485 (I732.up h_o0) (by decide)) (sF_c I732 J1485 (I732.up h_o0) (by decide))
                    have q1494 := J1485.keep t742 (by decide) q747
                    have t1495 := J1485.up t748
                    have q1496 := J1485.keep t742 (by decide) q749
                    have q1497 := J1485.keep t742 (by decide) q913
                    have q1498 := J1485.keep t742 (by decide) q970
                    have q1499 := J1485.keep t742 (by decide) q972
                    refine mv_goto (tgt := 42) d_TrustDeskModel_readEnd_27 (by decide) ?_
                    refine mv_aload_n d_TrustDeskModel_readEnd_42 rfl rfl ?_
                    obtain ⟨_, b1500, -⟩ := I1486.1 _ _ t1490
                    refine mv_callV (kc1 := 0) (ks1 := 0) (kc' := 0) (ks' := 0) (As := []) (st9 := [.ref o0]) d_TrustDeskModel_readEnd_43 lV_TrustDeskModel_230 b1500 rfl (mj_enter (by decide) (Nat.le_of_ble_eq_true rfl) ?_) rfl (Nat.le_of_ble_eq_true rfl) (Nat.le_of_ble_eq_true rfl) (Nat.le_of_ble_eq_true rfl) (hst := rfl) (fun _ _ _ h => h)
                    refine mv_aload_n d_TrustDeskModel_isWell_0 rfl rfl ?_
                    obtain ⟨v1502, q1501⟩ := tm_atI I1486 t1490 (k := 19) rfl
                    refine tr_getK q1501 d_TrustDeskModel_isWell_1 f_TrustDeskModel_224_13 ?_
                    have := R1488.f (k := 19) q1501 rfl
                    have := tm_rv q1501
                    refine mv_if_neZ (tgt := 11) (a := v1502.toInt) d_TrustDeskModel_isWell_4 (by decide) rfl (fun b1503 => ?_) (fun b1503 => ?_)
                    · refine mv_iconst (v := 0) d_TrustDeskModel_isWell_11 (by decide) ?_
                      refine mv_iret d_TrustDeskModel_isWell_12 rfl (by decide) ?_
                      refine mv_if_ne_f (tgt := 50) d_TrustDeskModel_readEnd_46 (by decide) (by decide) ?_
                      refine mv_vret d_TrustDeskModel_readEnd_49 rfl ?_
                      refine mv_goto (tgt := 165) d_TrustDeskModel_readClause_120 (by decide) ?_
                      refine mv_aload_n d_TrustDeskModel_readClause_165 rfl rfl ?_
                      refine mv_bipush (v := 59) d_TrustDeskModel_readClause_166 (by decide) ?_
                      obtain ⟨_, b1510, -⟩ := I1486.1 _ _ t1490
                      have : (59 : Int32).toInt = 59 := by decide
                      refine mv_callV (kc' := 0) (ks' := 0) (As := [.int 59]) (st9 := [.int 59, .ref o0]) d_TrustDeskModel_readClause_168 lV_TrustDeskModel_291 b1510 rfl (tc_TrustDeskModel_wantSign_x (d := (d + 23)) (x9 := x9) (o0 := o0) (x1 := 59) t1490 R1488 E1491.1 (by have := R1488.1 15 _ _ rfl; have := R1488.1 16 _ _ rfl; have := R1488.1 19 _ _ rfl; have := E1491.f yS; omega) I1486.start) rfl (Nat.le_of_ble_eq_true rfl) (Nat.le_of_ble_eq_true rfl) (Nat.le_of_ble_eq_true rfl) (hst := rfl) (fun b1504r M1505 n1506 b1504 => ?_)
                      obtain ⟨T1507, J1508, rfl, R1511, f1512⟩ := b1504
                      have I1509 := I1486.call J1508 (tm_sub (by decide)) (Or.inl rfl)
                      have t1513 := J1508.up t1490
                      have := (rv_c I1486 J1508 (I1486.up h_o0) (k := 22) rfl)
                      have := (rv_c I1486 J1508 (I1486.up h_o0) (k := 24) rfl)
                      have := ra_call I1486 J1508 (I1486.up h_o0) (k := 5) rfl rfl rfl 44
                      have := ra_call I1486 J1508 (I1486.up h_o0) (k := 6) rfl rfl rfl 44
                      have E1514 : rE M0 M1505 o0 0 2 := E1491.trans f1512 (by decide) (yR.2 5 _ _ rfl 44).1 (by decide) (by decide)
                      have := f1512.w
                      have := f1512.w2
                      have := ra_call I1486 J1508 (I1486.up h_o0) (k := 7) rfl rfl rfl ((880 + ra M0 o0 6 44).toNat)
                      have := ra_call I1486 J1508 (I1486.up h_o0) (k := 10) rfl rfl rfl ((880 + ra M0 o0 6 44).toNat)
                      have K1515 : rK M0 M1505 o0 ((880 + ra M0 o0 6 44).toNat) := K1492.same (sA_c I1486 J1508 (I1486.up h_o0) (by decide))
                      have K1516 : nN M1505 o0 := K1493.same (sA_c I1486 J1508 (I1486.up h_o0) (by decide)) (sF_c I1486 J1508 (I1486.up h_o0) (by decide))
                      have q1517 := J1508.keep t1490 (by decide) q1494
                      have t1518 := J1508.up t1495
                      have q1519 := J1508.keep t1490 (by decide) q1496
                      refine mv_aload_n d_TrustDeskModel_readClause_171 rfl rfl ?_
                      obtain ⟨a1521, q1520, t_a1521⟩ := tm_atR I1509 t1513 (k := 12) rfl
                      refine tr_getK q1520 d_TrustDeskModel_readClause_172 f_TrustDeskModel_41_13 ?_
                      refine mv_iload_n d_TrustDeskModel_readClause_175 rfl rfl ?_
                      refine mv_aload_n d_TrustDeskModel_readClause_176 rfl rfl ?_
                      obtain ⟨a1523, q1522, t_a1523⟩ := tm_atR I1509 t1513 (k := 5) rfl
                      refine tr_getK q1522 d_TrustDeskModel_readClause_177 f_TrustDeskModel_20_13 ?_
                      refine mv_bipush (v := 44) d_TrustDeskModel_readClause_180 (by decide) ?_
                      refine tr_ialdR (o := o0) (k := 5) I1509 q1522 t_a1523 (by decide) d_TrustDeskModel_readClause_182 (by unfold vp_in; decide) (fun v1524 e1525 => ?_)
                      have := R1511.a (k := 5) rfl (44 : Int32).toNatClampNeg
                      have : v1524.toInt = ra M1505 o0 5 44 := e1525
                      refine tr_iastR (k := 12) I1509 R1511 (I1509.up h_o0) q1520 t_a1521 (by decide) (by decide) (fun lo hi h => by cases h; have := R1511.1 15 _ _ rfl; have := R1511.1 16 _ _ rfl; have := R1511.1 19 _ _ rfl; have := E1514.f yS; exact ⟨by show (0 : Int) ≤ v1524.toInt; omega, by show v1524.toInt ≤ (400 : Int); omega⟩) (Or.inl (by decide)) d_TrustDeskModel_readClause_183 (vp_in_iff.mpr (by have := R1511.1 15 _ _ rfl; have := R1511.1 16 _ _ rfl; have := R1511.1 19 _ _ rfl; have := E1514.f yS; omega)) (fun M1526 I1527 K1528 R1529 E1530 A1531 V1532 => ?_)
                      have := V1532 15
                      have := V1532 16
                      have := V1532 17
                      have := V1532 19
                      have := V1532 22
                      have := V1532 24
                      have := A1531 5 (by decide) rfl 44
                      have := A1531 6 (by decide) rfl 44
                      have E1533 : rE M0 M1526 o0 0 2 := E1514.same (fun k _ _ => V1532 k) (fun k h1 h2 => A1531 k (by omega) (by rcases (show k = 4 ∨ k = 5 by omega) with rfl | rfl <;> rfl))
                      have := A1531 7 (by decide) rfl ((880 + ra M0 o0 6 44).toNat)
                      have := A1531 10 (by decide) rfl ((880 + ra M0 o0 6 44).toNat)
                      have h1534 : (880 + ra M0 o0 6 44).toNat = v734.toNatClampNeg := by have := mz_nat9 (i := v734) (by have := R1511.1 15 _ _ rfl; have := R1511.1 16 _ _ rfl; have := R1511.1 19 _ _ rfl; have := E1514.f yS; omega); have := R1511.1 15 _ _ rfl; have := R1511.1 16 _ _ rfl; have := R1511.1 19 _ _ rfl; have := E1514.f yS; omega
                      have : ra M1526 o0 12 ((880 + ra M0 o0 6 44).toNat) = v1524.toInt := (E1530 _).trans (if_pos h1534)
                      have K1535 : rK M0 M1526 o0 ((880 + ra M0 o0 6 44).toNat) := K1515.st A1531 E1530 (by have := mz_nat9 (i := v734) (by have := R1511.1 15 _ _ rfl; have := R1511.1 16 _ _ rfl; have := R1511.1 19 _ _ rfl; have := E1514.f yS; omega); have := R1511.1 15 _ _ rfl; have := R1511.1 16 _ _ rfl; have := R1511.1 19 _ _ rfl; have := E1514.f yS; omega)
                      have K1536 : nN M1526 o0 := K1516.same (sA_a A1531 (by decide)) (sF_a V1532)
                      exact mv_vret d_TrustDeskModel_readClause_184 rfl ⟨_, I1527, rfl, R1529, (rW.of E1533.1 (fun h9 => absurd h9 (by have := R1529.1 15 _ _ rfl; have := R1529.1 16 _ _ rfl; have := R1529.1 19 _ _ rfl; have := E1533.f yS; omega)) (fun h9 => absurd h9 (by have := R1529.1 15 _ _ rfl; have := R1529.1 16 _ _ rfl; have := R1529.1 19 _ _ rfl; have := E1533.f yS; omega))), (rO.of E1533 K1535 (by have := yR.2 6 _ _ rfl 44; omega)), (by have := R1529.1 15 _ _ rfl; have := R1529.1 16 _ _ rfl; have := R1529.1 19 _ _ rfl; have := E1533.f yS; omega), (by have := R1529.1 15 _ _ rfl; have := R1529.1 16 _ _ rfl; have := R1529.1 19 _ _ rfl; have := E1533.f yS; omega), (fun _ h9 => absurd h9 (by have := R1529.1 15 _ _ rfl; have := R1529.1 16 _ _ rfl; have := R1529.1 19 _ _ rfl; have := E1533.f yS; omega))⟩
                    · exfalso
                      have := R1488.1 15 _ _ rfl; have := R1488.1 16 _ _ rfl; have := R1488.1 19 _ _ rfl; have := E1491.f yS; omega
        · refine mv_aload_n d_TrustDeskModel_readClause_65 rfl rfl ?_
          refine mv_iconst (v := 4) d_TrustDeskModel_readClause_66 (by decide) ?_
          obtain ⟨_, b1543, -⟩ := I8.1 _ _ t17
          have : (4 : Int32).toInt = 4 := by decide
          refine mv_callV (kc' := 0) (ks' := 0) (As := [.int 4]) (st9 := [.int 4, .ref o0]) d_TrustDeskModel_readClause_67 lV_TrustDeskModel_240 b1543 rfl (tc_TrustDeskModel_fails_x (d := (d + 25)) (x9 := x9) (o0 := o0) (x1 := 4) t17 R13 (by decide) I8.start) rfl (Nat.le_of_ble_eq_true rfl) (Nat.le_of_ble_eq_true rfl) (Nat.le_of_ble_eq_true rfl) (hst := rfl) (fun b1537r M1538 n1539 b1537 => ?_)
          obtain ⟨T1540, J1541, rfl, R1544, f1545⟩ := b1537
          have I1542 := I8.call J1541 (tm_sub (by decide)) (Or.inl rfl)
          have t1546 := J1541.up t17
          have := (rv_c I8 J1541 (I8.up h_o0) (k := 15) rfl)
          have := (rv_c I8 J1541 (I8.up h_o0) (k := 16) rfl)
          have := (rv_c I8 J1541 (I8.up h_o0) (k := 17) rfl)
          have := (rv_c I8 J1541 (I8.up h_o0) (k := 22) rfl)
          have := (rv_c I8 J1541 (I8.up h_o0) (k := 24) rfl)
          have := ra_call I8 J1541 (I8.up h_o0) (k := 5) rfl rfl rfl 44
          have := ra_call I8 J1541 (I8.up h_o0) (k := 6) rfl rfl rfl 44
          have E1547 : rE M0 M1538 o0 0 0 := E18.fails (rE_hv I8 J1541 (I8.up h_o0) 15 18 (by decide)) (rE_ha I8 J1541 (I8.up h_o0) (by decide)) f1545 0 0
          have K1548 : rK M0 M1538 o0 ((880 + ra M0 o0 6 44).toNat) := K19.same (sA_c I8 J1541 (I8.up h_o0) (by decide))
          have K1549 : nN M1538 o0 := K20.same (sA_c I8 J1541 (I8.up h_o0) (by decide)) (sF_c I8 J1541 (I8.up h_o0) (by decide))
          have q1550 := J1541.keep t17 (by decide) q22
          have t1551 := J1541.up t_a23
          have q1552 := J1541.keep t17 (by decide) q380
          refine mv_aload_n d_TrustDeskModel_readClause_70 rfl rfl ?_
          obtain ⟨_, b1553, -⟩ := I1542.1 _ _ t1546
          refine mv_callV (kc1 := 0) (ks1 := 0) (kc' := 0) (ks' := 0) (As := []) (st9 := [.ref o0]) d_TrustDeskModel_readClause_71 lV_TrustDeskModel_230 b1553 rfl (mj_enter (by decide) (Nat.le_of_ble_eq_true rfl) ?_) rfl (Nat.le_of_ble_eq_true rfl) (Nat.le_of_ble_eq_true rfl) (Nat.le_of_ble_eq_true rfl) (hst := rfl) (fun _ _ _ h => h)
          refine mv_aload_n d_TrustDeskModel_isWell_0 rfl rfl ?_
          obtain ⟨v1555, q1554⟩ := tm_atI I1542 t1546 (k := 19) rfl
          refine tr_getK q1554 d_TrustDeskModel_isWell_1 f_TrustDeskModel_224_13 ?_
          have := R1544.f (k := 19) q1554 rfl
          have := tm_rv q1554
          refine mv_if_neZ (tgt := 11) (a := v1555.toInt) d_TrustDeskModel_isWell_4 (by decide) rfl (fun b1556 => ?_) (fun b1556 => ?_)
          · refine mv_iconst (v := 0) d_TrustDeskModel_isWell_11 (by decide) ?_
            refine mv_iret d_TrustDeskModel_isWell_12 rfl (by decide) ?_
            refine mv_if_ne_f (tgt := 78) d_TrustDeskModel_readClause_74 (by decide) (by decide) ?_
            exact mv_vret d_TrustDeskModel_readClause_77 rfl ⟨_, I1542, rfl, R1544, (rW.of E1547.1 (fun h9 => absurd h9 (by have := R1544.1 15 _ _ rfl; have := R1544.1 16 _ _ rfl; have := R1544.1 19 _ _ rfl; have := E1547.f yS; omega)) (fun h9 => absurd h9 (by have := R1544.1 15 _ _ rfl; have := R1544.1 16 _ _ rfl; have := R1544.1 19 _ _ rfl; have := E1547.f yS; omega))), (rO.of E1547 K1548 (by have := yR.2 6 _ _ rfl 44; omega)), (by have := R1544.1 15 _ _ rfl; have := R1544.1 16 _ _ rfl; have := R1544.1 19 _ _ rfl; have := E1547.f yS; omega), (by have := R1544.1 15 _ _ rfl; have := R1544.1 16 _ _ rfl; have := R1544.1 19 _ _ rfl; have := E1547.f yS; omega), (fun _ h9 => absurd h9 (by have := R1544.1 15 _ _ rfl; have := R1544.1 16 _ _ rfl; have := R1544.1 19 _ _ rfl; have := E1547.f yS; omega))⟩
          · exfalso
            have := R1544.1 15 _ _ rfl; have := R1544.1 16 _ _ rfl; have := R1544.1 19 _ _ rfl; have := E1547.f yS; omega
  · refine mv_aload_n d_TrustDeskModel_readClause_12 rfl rfl ?_
    refine mv_ldcSw (id := 43) (tx := "mark") d_TrustDeskModel_readClause_13 (List.mem_of_getElem? (i := 33) rfl) ?_
    obtain ⟨_, b1563, -⟩ := I8.1 _ _ t17
    refine mv_callV (kc' := 0) (ks' := 0) (As := [.ref 43]) (st9 := [.ref 43, .ref o0]) d_TrustDeskModel_readClause_16 lV_TrustDeskModel_244 b1563 rfl (tc_TrustDeskModel_isWord_s1_43_x (d := (d + 21)) (x9 := x9) (o0 := o0) t17 R13 I8.start) rfl (Nat.le_of_ble_eq_true rfl) (Nat.le_of_ble_eq_true rfl) (Nat.le_of_ble_eq_true rfl) (hst := rfl) (fun b1557r M1558 n1559 b1557 => ?_)
    obtain ⟨T1560, J1561, v1564, rfl, b1565, b1566, R1567, f1568⟩ := b1557
    have I1562 := I8.call J1561 (tm_sub (by decide)) (Or.inl rfl)
    have t1569 := J1561.up t17
    have := (rv_c I8 J1561 (I8.up h_o0) (k := 15) rfl)
    have := (rv_c I8 J1561 (I8.up h_o0) (k := 16) rfl)
    have := (rv_c I8 J1561 (I8.up h_o0) (k := 17) rfl)
    have := (rv_c I8 J1561 (I8.up h_o0) (k := 19) rfl)
    have := (rv_c I8 J1561 (I8.up h_o0) (k := 22) rfl)
    have := (rv_c I8 J1561 (I8.up h_o0) (k := 24) rfl)
    have := ra_call I8 J1561 (I8.up h_o0) (k := 5) rfl rfl rfl 44
    have := ra_call I8 J1561 (I8.up h_o0) (k := 6) rfl rfl rfl 44
    have E1570 : rE M0 M1558 o0 0 0 := E18.same (rE_hv I8 J1561 (I8.up h_o0) 15 19 (by decide)) (rE_ha I8 J1561 (I8.up h_o0) (by decide))
    have K1571 : rK M0 M1558 o0 ((880 + ra M0 o0 6 44).toNat) := K19.same (sA_c I8 J1561 (I8.up h_o0) (by decide))
    have K1572 : nN M1558 o0 := K20.same (sA_c I8 J1561 (I8.up h_o0) (by decide)) (sF_c I8 J1561 (I8.up h_o0) (by decide))
    have := mz_hi v1564
    refine mv_if_neZ (tgt := 40) (a := v1564.toInt) d_TrustDeskModel_readClause_19 (by decide) rfl (fun b1573 => ?_) (fun b1573 => ?_)
    · refine mv_aload_n d_TrustDeskModel_readClause_40 rfl rfl ?_
      obtain ⟨a1575, q1574, t_a1575⟩ := tm_atR I1562 t1569 (k := 6) rfl
      refine tr_getK q1574 d_TrustDeskModel_readClause_41 f_TrustDeskModel_23_13 ?_
      refine mv_bipush (v := 44) d_TrustDeskModel_readClause_44 (by decide) ?_
      refine tr_ialdR (o := o0) (k := 6) I1562 q1574 t_a1575 (by decide) d_TrustDeskModel_readClause_46 (by unfold vp_in; decide) (fun v1576 e1577 => ?_)
      have := R1567.a (k := 6) rfl (44 : Int32).toNatClampNeg
      have : v1576.toInt = ra M1558 o0 6 44 := e1577
      refine mv_bipush (v := 12) d_TrustDeskModel_readClause_47 (by decide) ?_
      have := mz_hi v1576
      refine mv_icmp_eqZ (tgt := 65) (a := v1576.toInt) (b := 12) d_TrustDeskModel_readClause_49 (by decide) rfl (by decide) (fun b1578 => ?_) (fun b1578 => ?_)
      · refine mv_aload_n d_TrustDeskModel_readClause_65 rfl rfl ?_
        refine mv_iconst (v := 4) d_TrustDeskModel_readClause_66 (by decide) ?_
        obtain ⟨_, b1585, -⟩ := I1562.1 _ _ t1569
        have : (4 : Int32).toInt = 4 := by decide
        refine mv_callV (kc' := 0) (ks' := 0) (As := [.int 4]) (st9 := [.int 4, .ref o0]) d_TrustDeskModel_readClause_67 lV_TrustDeskModel_240 b1585 rfl (tc_TrustDeskModel_fails_x (d := (d + 25)) (x9 := x9) (o0 := o0) (x1 := 4) t1569 R1567 (by decide) I1562.start) rfl (Nat.le_of_ble_eq_true rfl) (Nat.le_of_ble_eq_true rfl) (Nat.le_of_ble_eq_true rfl) (hst := rfl) (fun b1579r M1580 n1581 b1579 => ?_)
        obtain ⟨T1582, J1583, rfl, R1586, f1587⟩ := b1579
        have I1584 := I1562.call J1583 (tm_sub (by decide)) (Or.inl rfl)
        have t1588 := J1583.up t1569
        have := (rv_c I1562 J1583 (I1562.up h_o0) (k := 15) rfl)
        have := (rv_c I1562 J1583 (I1562.up h_o0) (k := 16) rfl)
        have := (rv_c I1562 J1583 (I1562.up h_o0) (k := 17) rfl)
        have := (rv_c I1562 J1583 (I1562.up h_o0) (k := 22) rfl)
        have := (rv_c I1562 J1583 (I1562.up h_o0) (k := 24) rfl)
        have := ra_call I1562 J1583 (I1562.up h_o0) (k := 5) rfl rfl rfl 44
        have := ra_call I1562 J1583 (I1562.up h_o0) (k := 6) rfl rfl rfl 44
        have E1589 : rE M0 M1580 o0 0 0 := E1570.fails (rE_hv I1562 J1583 (I1562.up h_o0) 15 18 (by decide)) (rE_ha I1562 J1583 (I1562.up h_o0) (by decide)) f1587 0 0
        have K1590 : rK M0 M1580 o0 ((880 + ra M0 o0 6 44).toNat) := K1571.same (sA_c I1562 J1583 (I1562.up h_o0) (by decide))
        have K1591 : nN M1580 o0 := K1572.same (sA_c I1562 J1583 (I1562.up h_o0) (by decide)) (sF_c I1562 J1583 (I1562.up h_o0) (by decide))
        have q1592 := J1583.keep t1569 (by decide) q1574
        have t1593 := J1583.up t_a1575
        refine mv_aload_n d_TrustDeskModel_readClause_70 rfl rfl ?_
        obtain ⟨_, b1594, -⟩ := I1584.1 _ _ t1588
        refine mv_callV (kc1 := 0) (ks1 := 0) (kc' := 0) (ks' := 0) (As := []) (st9 := [.ref o0]) d_TrustDeskModel_readClause_71 lV_TrustDeskModel_230 b1594 rfl (mj_enter (by decide) (Nat.le_of_ble_eq_true rfl) ?_) rfl (Nat.le_of_ble_eq_true rfl) (Nat.le_of_ble_eq_true rfl) (Nat.le_of_ble_eq_true rfl) (hst := rfl) (fun _ _ _ h => h)
        refine mv_aload_n d_TrustDeskModel_isWell_0 rfl rfl ?_
        obtain ⟨v1596, q1595⟩ := tm_atI I1584 t1588 (k := 19) rfl
        refine tr_getK q1595 d_TrustDeskModel_isWell_1 f_TrustDeskModel_224_13 ?_
        have := R1586.f (k := 19) q1595 rfl
        have := tm_rv q1595
        refine mv_if_neZ (tgt := 11) (a := v1596.toInt) d_TrustDeskModel_isWell_4 (by decide) rfl (fun b1597 => ?_) (fun b1597 => ?_)
        · refine mv_iconst (v := 0) d_TrustDeskModel_isWell_11 (by decide) ?_
          refine mv_iret d_TrustDeskModel_isWell_12 rfl (by decide) ?_
          refine mv_if_ne_f (tgt := 78) d_TrustDeskModel_readClause_74 (by decide) (by decide) ?_
          exact mv_vret d_TrustDeskModel_readClause_77 rfl ⟨_, I1584, rfl, R1586, (rW.of E1589.1 (fun h9 => absurd h9 (by have := R1586.1 15 _ _ rfl; have := R1586.1 16 _ _ rfl; have := R1586.1 19 _ _ rfl; have := E1589.f yS; omega)) (fun h9 => absurd h9 (by have := R1586.1 15 _ _ rfl; have := R1586.1 16 _ _ rfl; have := R1586.1 19 _ _ rfl; have := E1589.f yS; omega))), (rO.of E1589 K1590 (by have := yR.2 6 _ _ rfl 44; omega)), (by have := R1586.1 15 _ _ rfl; have := R1586.1 16 _ _ rfl; have := R1586.1 19 _ _ rfl; have := E1589.f yS; omega), (by have := R1586.1 15 _ _ rfl; have := R1586.1 16 _ _ rfl; have := R1586.1 19 _ _ rfl; have := E1589.f yS; omega), (fun _ h9 => absurd h9 (by have := R1586.1 15 _ _ rfl; have := R1586.1 16 _ _ rfl; have := R1586.1 19 _ _ rfl; have := E1589.f yS; omega))⟩
        · exfalso
          have := R1586.1 15 _ _ rfl; have := R1586.1 16 _ _ rfl; have := R1586.1 19 _ _ rfl; have := E1589.f yS; omega
      · refine mv_iload_n d_TrustDeskModel_readClause_52 rfl rfl ?_
        have := mz_hi v10
        refine mv_if_eqZ (tgt := 70) (a := v10.toInt) d_TrustDeskModel_readClause_53 (by decide) rfl (fun b1598 => ?_) (fun b1598 => absurd b1598 (by omega))
        refine mv_aload_n d_TrustDeskModel_readClause_70 rfl rfl ?_
        obtain ⟨_, b1599, -⟩ := I1562.1 _ _ t1569
        refine mv_callV (kc1 := 0) (ks1 := 0) (kc' := 0) (ks' := 0) (As := []) (st9 := [.ref o0]) d_TrustDeskModel_readClause_71 lV_TrustDeskModel_230 b1599 rfl (mj_enter (by decide) (Nat.le_of_ble_eq_true rfl) ?_) rfl (Nat.le_of_ble_eq_true rfl) (Nat.le_of_ble_eq_true rfl) (Nat.le_of_ble_eq_true rfl) (hst := rfl) (fun _ _ _ h => h)
        refine mv_aload_n d_TrustDeskModel_isWell_0 rfl rfl ?_
        obtain ⟨v1601, q1600⟩ := tm_atI I1562 t1569 (k := 19) rfl
        refine tr_getK q1600 d_TrustDeskModel_isWell_1 f_TrustDeskModel_224_13 ?_
        have := R1567.f (k := 19) q1600 rfl
        have := tm_rv q1600
        have := mz_hi v1601
        refine mv_if_neZ (tgt := 11) (a := v1601.toInt) d_TrustDeskModel_isWell_4 (by decide) rfl (fun b1602 => ?_) (fun b1602 => ?_)
        · refine mv_iconst (v := 0) d_TrustDeskModel_isWell_11 (by decide) ?_
          refine mv_iret d_TrustDeskModel_isWell_12 rfl (by decide) ?_
          refine mv_if_ne_f (tgt := 78) d_TrustDeskModel_readClause_74 (by decide) (by decide) ?_
          exact mv_vret d_TrustDeskModel_readClause_77 rfl ⟨_, I1562, rfl, R1567, (rW.of E1570.1 (fun w9 => (by have := R1567.1 15 _ _ rfl; have := R1567.1 16 _ _ rfl; have := R1567.1 19 _ _ rfl; have := E1570.f yS; omega)) (fun w9 => rG.step yG yR E1570 w9 K1571 (by have := yR.2 6 _ _ rfl 44; omega) (by have := R1567.1 15 _ _ rfl; have := R1567.1 16 _ _ rfl; have := R1567.1 19 _ _ rfl; have := E1570.f yS; omega) (by have := R1567.1 15 _ _ rfl; have := R1567.1 16 _ _ rfl; have := R1567.1 19 _ _ rfl; have := E1570.f yS; omega) (fun h9 => by exfalso; have := R1567.1 15 _ _ rfl; have := R1567.1 16 _ _ rfl; have := R1567.1 19 _ _ rfl; have := E1570.f yS; omega) (fun h9 => (by have := R1567.1 15 _ _ rfl; have := R1567.1 16 _ _ rfl; have := R1567.1 19 _ _ rfl; have := E1570.f yS; omega)) (by have := R1567.1 15 _ _ rfl; have := R1567.1 16 _ _ rfl; have := R1567.1 19 _ _ rfl; have := E1570.f yS; omega) K1572)), (rO.of E1570 K1571 (by have := yR.2 6 _ _ rfl 44; omega)), (by have := R1567.1 15 _ _ rfl; have := R1567.1 16 _ _ rfl; have := R1567.1 19 _ _ rfl; have := E1570.f yS; omega), (by have := R1567.1 15 _ _ rfl; have := R1567.1 16 _ _ rfl; have := R1567.1 19 _ _ rfl; have := E1570.f yS; omega), (fun h9 _ => absurd h9 (f16 (by have := R1567.1 15 _ _ rfl; have := R1567.1 16 _ _ rfl; have := R1567.1 19 _ _ rfl; have := E1570.f yS; omega)))⟩
        · refine mv_iconst (v := 1) d_TrustDeskModel_isWell_7 (by decide) ?_
          refine mv_goto (tgt := 12) d_TrustDeskModel_isWell_8 (by decide) ?_
          refine mv_iret d_TrustDeskModel_isWell_12 rfl (by decide) ?_
          refine mv_if_ne_t (tgt := 78) d_TrustDeskModel_readClause_74 (by decide) (by decide) ?_
          refine mv_aload_n d_TrustDeskModel_readClause_78 rfl rfl ?_
          refine mv_ldcSw (id := 43) (tx := "mark") d_TrustDeskModel_readClause_79 (List.mem_of_getElem? (i := 33) rfl) ?_
          obtain ⟨_, b1609, -⟩ := I1562.1 _ _ t1569
          refine mv_callV (kc' := 0) (ks' := 0) (As := [.ref 43]) (st9 := [.ref 43, .ref o0]) d_TrustDeskModel_readClause_82 lV_TrustDeskModel_244 b1609 rfl (tc_TrustDeskModel_isWord_s1_43_x (d := (d + 21)) (x9 := x9) (o0 := o0) t1569 R1567 I1562.start) rfl (Nat.le_of_ble_eq_true rfl) (Nat.le_of_ble_eq_true rfl) (Nat.le_of_ble_eq_true rfl) (hst := rfl) (fun b1603r M1604 n1605 b1603 => ?_)
          obtain ⟨T1606, J1607, v1610, rfl, b1611, b1612, R1613, f1614⟩ := b1603
          have I1608 := I1562.call J1607 (tm_sub (by decide)) (Or.inl rfl)
          have t1615 := J1607.up t1569
          have := (rv_c I1562 J1607 (I1562.up h_o0) (k := 15) rfl)
          have := (rv_c I1562 J1607 (I1562.up h_o0) (k := 16) rfl)
          have := (rv_c I1562 J1607 (I1562.up h_o0) (k := 17) rfl)
          have := (rv_c I1562 J1607 (I1562.up h_o0) (k := 19) rfl)
          have := (rv_c I1562 J1607 (I1562.up h_o0) (k := 22) rfl)
          have := (rv_c I1562 J1607 (I1562.up h_o0) (k := 24) rfl)
          have := ra_call I1562 J1607 (I1562.up h_o0) (k := 5) rfl rfl rfl 44
          have := ra_call I1562 J1607 (I1562.up h_o0) (k := 6) rfl rfl rfl 44
          have E1616 : rE M0 M1604 o0 0 0 := E1570.same (rE_hv I1562 J1607 (I1562.up h_o0) 15 19 (by decide)) (rE_ha I1562 J1607 (I1562.up h_o0) (by decide))
          have K1617 : rK M0 M1604 o0 ((880 + ra M0 o0 6 44).toNat) := K1571.same (sA_c I1562 J1607 (I1562.up h_o0) (by decide))
          have K1618 : nN M1604 o0 := K1572.same (sA_c I1562 J1607 (I1562.up h_o0) (by decide)) (sF_c I1562 J1607 (I1562.up h_o0) (by decide))
          have q1619 := J1607.keep t1569 (by decide) q1574
          have t1620 := J1607.up t_a1575
          have q1621 := J1607.keep t1569 (by decide) q1600
          refine mv_istore_n (lv' := [(2, .int v1610), (1, .int v10), (0, .ref o0)]) d_TrustDeskModel_readClause_85 rfl (by decide) rfl ?_
          refine mv_aload_n d_TrustDeskModel_readClause_86 rfl rfl ?_
          refine mv_iload_n d_TrustDeskModel_readClause_87 rfl rfl ?_
          have := mz_hi v10
          refine mv_if_eqZ (tgt := 96) (a := v10.toInt) d_TrustDeskModel_readClause_88 (by decide) rfl (fun b1622 => ?_) (fun b1622 => absurd b1622 (by omega))
          refine mv_iload_n d_TrustDeskModel_readClause_96 rfl rfl ?_
          have := mz_hi v1610
          refine mv_if_eqZ (tgt := 105) (a := v1610.toInt) d_TrustDeskModel_readClause_97 (by decide) rfl (fun b1623 => ?_) (fun b1623 => ?_)
          · refine mv_bipush (v := 9) d_TrustDeskModel_readClause_105 (by decide) ?_
            obtain ⟨_, b1630, -⟩ := I1608.1 _ _ t1615
            have : (9 : Int32).toInt = 9 := by decide
            refine mv_callV (kc' := 0) (ks' := 0) (As := [.int 9]) (st9 := [.int 9, .ref o0]) d_TrustDeskModel_readClause_107 lV_TrustDeskModel_342 b1630 rfl (tc_TrustDeskModel_begin_x (d := (d + 23)) (x9 := x9) (o0 := o0) (x1 := 9) t1615 R1613 E1616.1 (by have := R1613.1 15 _ _ rfl; have := R1613.1 16 _ _ rfl; have := R1613.1 19 _ _ rfl; have := E1616.f yS; omega) (by have := R1613.1 15 _ _ rfl; have := R1613.1 16 _ _ rfl; have := R1613.1 19 _ _ rfl; have := E1616.f yS; omega) (by have := R1613.1 15 _ _ rfl; have := R1613.1 16 _ _ rfl; have := R1613.1 19 _ _ rfl; have := E1616.f yS; omega) (by have := R1613.1 15 _ _ rfl; have := R1613.1 16 _ _ rfl; have := R1613.1 19 _ _ rfl; have := E1616.f yS; omega) I1608.start) rfl (Nat.le_of_ble_eq_true rfl) (Nat.le_of_ble_eq_true rfl) (Nat.le_of_ble_eq_true rfl) (hst := rfl) (fun b1624r M1625 n1626 b1624 => ?_)
            obtain ⟨T1627, J1628, v1631, rfl, R1632, f1633, f1634, f1635, f1636, f1637, f1638⟩ := b1624
            have I1629 := I1608.call J1628 (tm_sub (by decide)) (Or.inl rfl)
            have t1639 := J1628.up t1615
            have := (rv_c I1608 J1628 (I1608.up h_o0) (k := 19) rfl)
            have := (rv_c I1608 J1628 (I1608.up h_o0) (k := 22) rfl)
            have := (rv_c I1608 J1628 (I1608.up h_o0) (k := 24) rfl)
            have := ra_call I1608 J1628 (I1608.up h_o0) (k := 5) rfl rfl rfl 44
            have E1640 : rE M0 M1625 o0 0 1 := E1616.trans f1633 (by decide) (yR.2 5 _ _ rfl 44).1 (by decide) (by decide)
            have := f1633.w
            have := f1633.w2
            have h1641 : (880 + ra M1604 o0 6 44).toNat = (880 + ra M0 o0 6 44).toNat := by omega
            rw [h1641] at f1636 f1637 f1638
            have K1642 : rK M0 M1625 o0 ((880 + ra M0 o0 6 44).toNat) := K1617.trans f1638
            have K1643 : nN M1625 o0 := K1618.same (sA_c I1608 J1628 (I1608.up h_o0) (by decide)) (sF_c I1608 J1628 (I1608.up h_o0) (by decide))
            have q1644 := J1628.keep t1615 (by decide) q1619
            have t1645 := J1628.up t1620
            have q1646 := J1628.keep t1615 (by decide) q1621
            refine mv_istore_n (lv' := [(3, .int v1631), (2, .int v1610), (1, .int v10), (0, .ref o0)]) d_TrustDeskModel_readClause_110 rfl (by decide) rfl ?_
            refine mv_iload_n d_TrustDeskModel_readClause_111 rfl rfl ?_
            have := mz_hi v10
            refine mv_if_eqZ (tgt := 123) (a := v10.toInt) d_TrustDeskModel_readClause_112 (by decide) rfl (fun b1647 => ?_) (fun b1647 => absurd b1647 (by omega))
            refine mv_iload_n d_TrustDeskModel_readClause_123 rfl rfl ?_
            have := mz_hi v1610
            refine mv_if_eqZ (tgt := 135) (a := v1610.toInt) d_TrustDeskModel_readClause_124 (by decide) rfl (fun b1648 => ?_) (fun b1648 => absurd b1648 (by omega))
            refine mv_aload_n d_TrustDeskModel_readClause_135 rfl rfl ?_
            obtain ⟨a1650, q1649, t_a1650⟩ := tm_atR I1629 t1639 (k := 8) rfl
            refine tr_getK q1649 d_TrustDeskModel_readClause_136 f_TrustDeskModel_29_13 ?_
            refine mv_iload_n d_TrustDeskModel_readClause_139 rfl rfl ?_
            refine mv_aload_n d_TrustDeskModel_readClause_140 rfl rfl ?_
            refine mv_iconst (v := 1) d_TrustDeskModel_readClause_141 (by decide) ?_
            refine mv_bipush (v := 7) d_TrustDeskModel_readClause_142 (by decide) ?_
            obtain ⟨_, b1657, -⟩ := I1629.1 _ _ t1639
            have : (1 : Int32).toInt = 1 := by decide
            have : (7 : Int32).toInt = 7 := by decide
            refine mv_callV (kc' := 0) (ks' := 0) (As := [.int 1, .int 7]) (st9 := [.int 7, .int 1, .ref o0, .int v1631, .ref a1650]) d_TrustDeskModel_readClause_144 lV_TrustDeskModel_317 b1657 rfl (tc_TrustDeskModel_number_x (d := (d + 23)) (x9 := x9) (o0 := o0) (x1 := 1) (x2 := 7) t1639 R1632 E1640.1 (by have := R1632.1 15 _ _ rfl; have := R1632.1 16 _ _ rfl; have := R1632.1 19 _ _ rfl; have := E1640.f yS; omega) I1629.start) rfl (Nat.le_of_ble_eq_true rfl) (Nat.le_of_ble_eq_true rfl) (Nat.le_of_ble_eq_true rfl) (hst := rfl) (fun b1651r M1652 n1653 b1651 => ?_)
            obtain ⟨T1654, J1655, v1658, rfl, R1659, f1660, f1661⟩ := b1651
            have I1656 := I1629.call J1655 (tm_sub (by decide)) (Or.inl rfl)
            have t1662 := J1655.up t1639
            have t1663 := J1655.up t_a1650
            have := (rv_c I1629 J1655 (I1629.up h_o0) (k := 22) rfl)
            have := (rv_c I1629 J1655 (I1629.up h_o0) (k := 24) rfl)
            have := ra_call I1629 J1655 (I1629.up h_o0) (k := 5) rfl rfl rfl 44
            have := ra_call I1629 J1655 (I1629.up h_o0) (k := 6) rfl rfl rfl 44
            have E1664 : rE M0 M1652 o0 0 2 := E1640.trans f1660 (by decide) (yR.2 5 _ _ rfl 44).1 (by decide) (by decide)
            have := f1660.w
            have := f1660.w2
            have := ra_call I1629 J1655 (I1629.up h_o0) (k := 7) rfl rfl rfl ((880 + ra M0 o0 6 44).toNat)
            have := ra_call I1629 J1655 (I1629.up h_o0) (k := 10) rfl rfl rfl ((880 + ra M0 o0 6 44).toNat)
            have K1665 : rK M0 M1652 o0 ((880 + ra M0 o0 6 44).toNat) := K1642.same (sA_c I1629 J1655 (I1629.up h_o0) (by decide))
            have K1666 : nN M1652 o0 := K1643.same (sA_c I1629 J1655 (I1629.up h_o0) (by decide)) (sF_c I1629 J1655 (I1629.up h_o0) (by decide))
            have q1667 := J1655.keep t1639 (by decide) q1644
            have t1668 := J1655.up t1645
            have q1669 := J1655.keep t1639 (by decide) q1649
            refine tr_iastR (k := 8) I1656 R1659 (I1656.up h_o0) q1669 t1663 (by decide) (by decide) (fun lo hi h => by cases h; have := R1659.1 15 _ _ rfl; have := R1659.1 16 _ _ rfl; have := R1659.1 19 _ _ rfl; have := E1664.f yS; exact ⟨by show ((-1) : Int) ≤ v1658.toInt; omega, by show v1658.toInt ≤ (720 : Int); omega⟩) (Or.inl (by decide)) d_TrustDeskModel_readClause_147 (vp_in_iff.mpr (by have := R1659.1 15 _ _ rfl; have := R1659.1 16 _ _ rfl; have := R1659.1 19 _ _ rfl; have := E1664.f yS; omega)) (fun M1670 I1671 K1672 R1673 E1674 A1675 V1676 => ?_)
            have := V1676 15
            have := V1676 16
            have := V1676 17
            have := V1676 19
            have := V1676 22
            have := V1676 24
            have := A1675 5 (by decide) rfl 44
            have := A1675 6 (by decide) rfl 44
            have E1677 : rE M0 M1670 o0 0 2 := E1664.same (fun k _ _ => V1676 k) (fun k h1 h2 => A1675 k (by omega) (by rcases (show k = 4 ∨ k = 5 by omega) with rfl | rfl <;> rfl))
            have := A1675 7 (by decide) rfl ((880 + ra M0 o0 6 44).toNat)
            have := A1675 10 (by decide) rfl ((880 + ra M0 o0 6 44).toNat)
            have h1678 : (880 + ra M0 o0 6 44).toNat = v1631.toNatClampNeg := by have := mz_nat9 (i := v1631) (by have := R1659.1 15 _ _ rfl; have := R1659.1 16 _ _ rfl; have := R1659.1 19 _ _ rfl; have := E1664.f yS; omega); have := R1659.1 15 _ _ rfl; have := R1659.1 16 _ _ rfl; have := R1659.1 19 _ _ rfl; have := E1664.f yS; omega
            have : ra M1670 o0 8 ((880 + ra M0 o0 6 44).toNat) = v1658.toInt := (E1674 _).trans (if_pos h1678)
            have K1679 : rK M0 M1670 o0 ((880 + ra M0 o0 6 44).toNat) := K1665.st A1675 E1674 (by have := mz_nat9 (i := v1631) (by have := R1659.1 15 _ _ rfl; have := R1659.1 16 _ _ rfl; have := R1659.1 19 _ _ rfl; have := E1664.f yS; omega); have := R1659.1 15 _ _ rfl; have := R1659.1 16 _ _ rfl; have := R1659.1 19 _ _ rfl; have := E1664.f yS; omega)
            have K1680 : nN M1670 o0 := K1666.same (sA_a A1675 (by decide)) (sF_a V1676)
            refine mv_aload_n d_TrustDeskModel_readClause_148 rfl rfl ?_
            obtain ⟨a1682, q1681, t_a1682⟩ := tm_atR I1671 t1662 (k := 9) rfl
            refine tr_getK q1681 d_TrustDeskModel_readClause_149 f_TrustDeskModel_32_13 ?_
            refine mv_iload_n d_TrustDeskModel_readClause_152 rfl rfl ?_
            refine mv_aload_n d_TrustDeskModel_readClause_153 rfl rfl ?_
            refine mv_iconst (v := 1) d_TrustDeskModel_readClause_154 (by decide) ?_
            refine mv_aload_n d_TrustDeskModel_readClause_155 rfl rfl ?_
            refine tr_getK (k := 8) (K1672 _ 13 8 _ q1669) d_TrustDeskModel_readClause_156 f_TrustDeskModel_29_13 ?_
            refine mv_iload_n d_TrustDeskModel_readClause_159 rfl rfl ?_
            refine tr_ialdR (o := o0) (k := 8) I1671 (K1672 _ 13 8 _ q1669) t1663 (by decide) d_TrustDeskModel_readClause_160 (vp_in_iff.mpr (by have := R1673.1 15 _ _ rfl; have := R1673.1 16 _ _ rfl; have := R1673.1 19 _ _ rfl; have := E1677.f yS; omega)) (fun v1683 e1684 => ?_)
            have := R1673.a (k := 8) rfl (v1631 : Int32).toNatClampNeg
            have h1685 : (880 + ra M0 o0 6 44).toNat = v1631.toNatClampNeg := by have := mz_nat9 (i := v1631) (by have := R1673.1 15 _ _ rfl; have := R1673.1 16 _ _ rfl; have := R1673.1 19 _ _ rfl; have := E1677.f yS; omega); have := R1673.1 15 _ _ rfl; have := R1673.1 16 _ _ rfl; have := R1673.1 19 _ _ rfl; have := E1677.f yS; omega
            have : v1683.toInt = ra M1670 o0 8 ((880 + ra M0 o0 6 44).toNat) := by rw [e1684, h1685]
            obtain ⟨_, b1692, -⟩ := I1671.1 _ _ t1662
            have : (1 : Int32).toInt = 1 := by decide
            refine mv_callV (kc' := 0) (ks' := 0) (As := [.int 1, .int v1683]) (st9 := [.int v1683, .int 1, .ref o0, .int v1631, .ref a1682]) d_TrustDeskModel_readClause_161 lV_TrustDeskModel_317 b1692 rfl (tc_TrustDeskModel_number_x (d := (d + 23)) (x9 := x9) (o0 := o0) (x1 := 1) (x2 := v1683) t1662 R1673 E1677.1 (by have := R1673.1 15 _ _ rfl; have := R1673.1 16 _ _ rfl; have := R1673.1 19 _ _ rfl; have := E1677.f yS; omega) I1671.start) rfl (Nat.le_of_ble_eq_true rfl) (Nat.le_of_ble_eq_true rfl) (Nat.le_of_ble_eq_true rfl) (hst := rfl) (fun b1686r M1687 n1688 b1686 => ?_)
            obtain ⟨T1689, J1690, v1693, rfl, R1694, f1695, f1696⟩ := b1686
            have I1691 := I1671.call J1690 (tm_sub (by decide)) (Or.inl rfl)
            have t1697 := J1690.up t1662
            have t1698 := J1690.up t_a1682
            have := (rv_c I1671 J1690 (I1671.up h_o0) (k := 22) rfl)
            have := (rv_c I1671 J1690 (I1671.up h_o0) (k := 24) rfl)
            have := ra_call I1671 J1690 (I1671.up h_o0) (k := 5) rfl rfl rfl 44
            have := ra_call I1671 J1690 (I1671.up h_o0) (k := 6) rfl rfl rfl 44
            have E1699 : rE M0 M1687 o0 0 3 := E1677.trans f1695 (by decide) (yR.2 5 _ _ rfl 44).1 (by decide) (by decide)
            have := f1695.w
            have := f1695.w2
            have := ra_call I1671 J1690 (I1671.up h_o0) (k := 7) rfl rfl rfl ((880 + ra M0 o0 6 44).toNat)
            have := ra_call I1671 J1690 (I1671.up h_o0) (k := 10) rfl rfl rfl ((880 + ra M0 o0 6 44).toNat)
            have := ra_call I1671 J1690 (I1671.up h_o0) (k := 8) rfl rfl rfl ((880 + ra M0 o0 6 44).toNat)
            have K1700 : rK M0 M1687 o0 ((880 + ra M0 o0 6 44).toNat) := K1679.same (sA_c I1671 J1690 (I1671.up h_o0) (by decide))
            have K1701 : nN M1687 o0 := K1680.same (sA_c I1671 J1690 (I1671.up h_o0) (by decide)) (sF_c I1671 J1690 (I1671.up h_o0) (by decide))
            have q1702 := J1690.keep t1662 (by decide) (K1672 _ 13 6 _ q1667)
            have t1703 := J1690.up t1668
            have q1704 := J1690.keep t1662 (by decide) (K1672 _ 13 8 _ q1669)
            have t1705 := J1690.up t1663
            have q1706 := J1690.keep t1662 (by decide) q1681
            refine tr_iastR (k := 9) I1691 R1694 (I1691.up h_o0) q1706 t1698 (by decide) (by decide) (fun lo hi h => by cases h) (Or.inl (by decide)) d_TrustDeskModel_readClause_164 (vp_in_iff.mpr (by have := R1694.1 15 _ _ rfl; have := R1694.1 16 _ _ rfl; have := R1694.1 19 _ _ rfl; have := E1699.f yS; omega)) (fun M1707 I1708 K1709 R1710 E1711 A1712 V1713 => ?_)
            have := V1713 15
            have := V1713 16
            have := V1713 17
            have := V1713 19
            have := V1713 22
            have := V1713 24
            have := A1712 5 (by decide) rfl 44
            have := A1712 6 (by decide) rfl 44
            have E1714 : rE M0 M1707 o0 0 3 := E1699.same (fun k _ _ => V1713 k) (fun k h1 h2 => A1712 k (by omega) (by rcases (show k = 4 ∨ k = 5 by omega) with rfl | rfl <;> rfl))
            have := A1712 7 (by decide) rfl ((880 + ra M0 o0 6 44).toNat)
            have := A1712 10 (by decide) rfl ((880 + ra M0 o0 6 44).toNat)
            have := A1712 8 (by decide) rfl ((880 + ra M0 o0 6 44).toNat)
            have K1715 : rK M0 M1707 o0 ((880 + ra M0 o0 6 44).toNat) := K1700.same (sA_a A1712 (by decide))
            have K1716 : nN M1707 o0 := K1701.same (sA_a A1712 (by decide)) (sF_a V1713)
            refine mv_aload_n d_TrustDeskModel_readClause_165 rfl rfl ?_
            refine mv_bipush (v := 59) d_TrustDeskModel_readClause_166 (by decide) ?_
            obtain ⟨_, b1723, -⟩ := I1708.1 _ _ t1697
            have : (59 : Int32).toInt = 59 := by decide
            refine mv_callV (kc' := 0) (ks' := 0) (As := [.int 59]) (st9 := [.int 59, .ref o0]) d_TrustDeskModel_readClause_168 lV_TrustDeskModel_291 b1723 rfl (tc_TrustDeskModel_wantSign_x (d := (d + 23)) (x9 := x9) (o0 := o0) (x1 := 59) t1697 R1710 E1714.1 (by have := R1710.1 15 _ _ rfl; have := R1710.1 16 _ _ rfl; have := R1710.1 19 _ _ rfl; have := E1714.f yS; omega) I1708.start) rfl (Nat.le_of_ble_eq_true rfl) (Nat.le_of_ble_eq_true rfl) (Nat.le_of_ble_eq_true rfl) (hst := rfl) (fun b1717r M1718 n1719 b1717 => ?_)
            obtain ⟨T1720, J1721, rfl, R1724, f1725⟩ := b1717
            have I1722 := I1708.call J1721 (tm_sub (by decide)) (Or.inl rfl)
            have t1726 := J1721.up t1697
            have := (rv_c I1708 J1721 (I1708.up h_o0) (k := 22) rfl)
            have := (rv_c I1708 J1721 (I1708.up h_o0) (k := 24) rfl)
            have := ra_call I1708 J1721 (I1708.up h_o0) (k := 5) rfl rfl rfl 44
            have := ra_call I1708 J1721 (I1708.up h_o0) (k := 6) rfl rfl rfl 44
            have E1727 : rE M0 M1718 o0 0 4 := E1714.trans f1725 (by decide) (yR.2 5 _ _ rfl 44).1 (by decide) (by decide)
            have := f1725.w
            have := f1725.w2
            have := ra_call I1708 J1721 (I1708.up h_o0) (k := 7) rfl rfl rfl ((880 + ra M0 o0 6 44).toNat)
            have := ra_call I1708 J1721 (I1708.up h_o0) (k := 10) rfl rfl rfl ((880 + ra M0 o0 6 44).toNat)
            have := ra_call I1708 J1721 (I1708.up h_o0) (k := 8) rfl rfl rfl ((880 + ra M0 o0 6 44).toNat)
            have K1728 : rK M0 M1718 o0 ((880 + ra M0 o0 6 44).toNat) := K1715.same (sA_c I1708 J1721 (I1708.up h_o0) (by decide))
            have K1729 : nN M1718 o0 := K1716.same (sA_c I1708 J1721 (I1708.up h_o0) (by decide)) (sF_c I1708 J1721 (I1708.up h_o0) (by decide))
            have q1730 := J1721.keep t1697 (by decide) (K1709 _ 13 6 _ q1702)
            have t1731 := J1721.up t1703
            have q1732 := J1721.keep t1697 (by decide) (K1709 _ 13 8 _ q1704)
            have t1733 := J1721.up t1705
            have q1734 := J1721.keep t1697 (by decide) (K1709 _ 13 9 _ q1706)
            have t1735 := J1721.up t1698
            refine mv_aload_n d_TrustDeskModel_readClause_171 rfl rfl ?_
            obtain ⟨a1737, q1736, t_a1737⟩ := tm_atR I1722 t1726 (k := 12) rfl
            refine tr_getK q1736 d_TrustDeskModel_readClause_172 f_TrustDeskModel_41_13 ?_
            refine mv_iload_n d_TrustDeskModel_readClause_175 rfl rfl ?_
            refine mv_aload_n d_TrustDeskModel_readClause_176 rfl rfl ?_
            obtain ⟨a1739, q1738, t_a1739⟩ := tm_atR I1722 t1726 (k := 5) rfl
            refine tr_getK q1738 d_TrustDeskModel_readClause_177 f_TrustDeskModel_20_13 ?_
            refine mv_bipush (v := 44) d_TrustDeskModel_readClause_180 (by decide) ?_
            refine tr_ialdR (o := o0) (k := 5) I1722 q1738 t_a1739 (by decide) d_TrustDeskModel_readClause_182 (by unfold vp_in; decide) (fun v1740 e1741 => ?_)
            have := R1724.a (k := 5) rfl (44 : Int32).toNatClampNeg
            have : v1740.toInt = ra M1718 o0 5 44 := e1741
            refine tr_iastR (k := 12) I1722 R1724 (I1722.up h_o0) q1736 t_a1737 (by decide) (by decide) (fun lo hi h => by cases h; have := R1724.1 15 _ _ rfl; have := R1724.1 16 _ _ rfl; have := R1724.1 19 _ _ rfl; have := E1727.f yS; exact ⟨by show (0 : Int) ≤ v1740.toInt; omega, by show v1740.toInt ≤ (400 : Int); omega⟩) (Or.inl (by decide)) d_TrustDeskModel_readClause_183 (vp_in_iff.mpr (by have := R1724.1 15 _ _ rfl; have := R1724.1 16 _ _ rfl; have := R1724.1 19 _ _ rfl; have := E1727.f yS; omega)) (fun M1742 I1743 K1744 R1745 E1746 A1747 V1748 => ?_)
            have := V1748 15
            have := V1748 16
            have := V1748 17
            have := V1748 19
            have := V1748 22
            have := V1748 24
            have := A1747 5 (by decide) rfl 44
            have := A1747 6 (by decide) rfl 44
            have E1749 : rE M0 M1742 o0 0 4 := E1727.same (fun k _ _ => V1748 k) (fun k h1 h2 => A1747 k (by omega) (by rcases (show k = 4 ∨ k = 5 by omega) with rfl | rfl <;> rfl))
            have := A1747 7 (by decide) rfl ((880 + ra M0 o0 6 44).toNat)
            have := A1747 10 (by decide) rfl ((880 + ra M0 o0 6 44).toNat)
            have := A1747 8 (by decide) rfl ((880 + ra M0 o0 6 44).toNat)
            have h1750 : (880 + ra M0 o0 6 44).toNat = v1631.toNatClampNeg := by have := mz_nat9 (i := v1631) (by have := R1724.1 15 _ _ rfl; have := R1724.1 16 _ _ rfl; have := R1724.1 19 _ _ rfl; have := E1727.f yS; omega); have := R1724.1 15 _ _ rfl; have := R1724.1 16 _ _ rfl; have := R1724.1 19 _ _ rfl; have := E1727.f yS; omega
            have : ra M1742 o0 12 ((880 + ra M0 o0 6 44).toNat) = v1740.toInt := (E1746 _).trans (if_pos h1750)
            have K1751 : rK M0 M1742 o0 ((880 + ra M0 o0 6 44).toNat) := K1728.st A1747 E1746 (by have := mz_nat9 (i := v1631) (by have := R1724.1 15 _ _ rfl; have := R1724.1 16 _ _ rfl; have := R1724.1 19 _ _ rfl; have := E1727.f yS; omega); have := R1724.1 15 _ _ rfl; have := R1724.1 16 _ _ rfl; have := R1724.1 19 _ _ rfl; have := E1727.f yS; omega)
            have K1752 : nN M1742 o0 := K1729.same (sA_a A1747 (by decide)) (sF_a V1748)
            exact mv_vret d_TrustDeskModel_readClause_184 rfl ⟨_, I1743, rfl, R1745, (rW.of E1749.1 (fun w9 => (by have := R1745.1 15 _ _ rfl; have := R1745.1 16 _ _ rfl; have := R1745.1 19 _ _ rfl; have := E1749.f yS; omega)) (fun w9 => rG.step yG yR E1749 w9 K1751 (by have := yR.2 6 _ _ rfl 44; omega) (by have := R1745.1 15 _ _ rfl; have := R1745.1 16 _ _ rfl; have := R1745.1 19 _ _ rfl; have := E1749.f yS; omega) (by have := R1745.1 15 _ _ rfl; have := R1745.1 16 _ _ rfl; have := R1745.1 19 _ _ rfl; have := E1749.f yS; omega) (fun h9 => by exfalso; have := R1745.1 15 _ _ rfl; have := R1745.1 16 _ _ rfl; have := R1745.1 19 _ _ rfl; have := E1749.f yS; omega) (fun h9 => (by have := R1745.1 15 _ _ rfl; have := R1745.1 16 _ _ rfl; have := R1745.1 19 _ _ rfl; have := E1749.f yS; omega)) (by have := R1745.1 15 _ _ rfl; have := R1745.1 16 _ _ rfl; have := R1745.1 19 _ _ rfl; have := E1749.f yS; omega) K1752)), (rO.of E1749 K1751 (by have := yR.2 6 _ _ rfl 44; omega)), (by have := R1745.1 15 _ _ rfl; have := R1745.1 16 _ _ rfl; have := R1745.1 19 _ _ rfl; have := E1749.f yS; omega), (by have := R1745.1 15 _ _ rfl; have := R1745.1 16 _ _ rfl; have := R1745.1 19 _ _ rfl; have := E1749.f yS; omega), (fun h9 _ => absurd h9 (f16 (by have := R1745.1 15 _ _ rfl; have := R1745.1 16 _ _ rfl; have := R1745.1 19 _ _ rfl; have := E1749.f yS; omega)))⟩
          · refine mv_bipush (v := 7) d_TrustDeskModel_readClause_100 (by decide) ?_
            refine mv_goto (tgt := 107) d_TrustDeskModel_readClause_102 (by decide) ?_
            obtain ⟨_, b1759, -⟩ := I1608.1 _ _ t1615
            have : (7 : Int32).toInt = 7 := by decide
            refine mv_callV (kc' := 0) (ks' := 0) (As := [.int 7]) (st9 := [.int 7, .ref o0]) d_TrustDeskModel_readClause_107 lV_TrustDeskModel_342 b1759 rfl (tc_TrustDeskModel_begin_x (d := (d + 23)) (x9 := x9) (o0 := o0) (x1 := 7) t1615 R1613 E1616.1 (by have := R1613.1 15 _ _ rfl; have := R1613.1 16 _ _ rfl; have := R1613.1 19 _ _ rfl; have := E1616.f yS; omega) (by have := R1613.1 15 _ _ rfl; have := R1613.1 16 _ _ rfl; have := R1613.1 19 _ _ rfl; have := E1616.f yS; omega) (by have := R1613.1 15 _ _ rfl; have := R1613.1 16 _ _ rfl; have := R1613.1 19 _ _ rfl; have := E1616.f yS; omega) (by have := R1613.1 15 _ _ rfl; have := R1613.1 16 _ _ rfl; have := R1613.1 19 _ _ rfl; have := E1616.f yS; omega) I1608.start) rfl (Nat.le_of_ble_eq_true rfl) (Nat.le_of_ble_eq_true rfl) (Nat.le_of_ble_eq_true rfl) (hst := rfl) (fun b1753r M1754 n1755 b1753 => ?_)
            obtain ⟨T1756, J1757, v1760, rfl, R1761, f1762, f1763, f1764, f1765, f1766, f1767⟩ := b1753
            have I1758 := I1608.call J1757 (tm_sub (by decide)) (Or.inl rfl)
            have t1768 := J1757.up t1615
            have := (rv_c I1608 J1757 (I1608.up h_o0) (k := 19) rfl)
            have := (rv_c I1608 J1757 (I1608.up h_o0) (k := 22) rfl)
            have := (rv_c I1608 J1757 (I1608.up h_o0) (k := 24) rfl)
            have := ra_call I1608 J1757 (I1608.up h_o0) (k := 5) rfl rfl rfl 44
            have E1769 : rE M0 M1754 o0 0 1 := E1616.trans f1762 (by decide) (yR.2 5 _ _ rfl 44).1 (by decide) (by decide)
            have := f1762.w
            have := f1762.w2
            have h1770 : (880 + ra M1604 o0 6 44).toNat = (880 + ra M0 o0 6 44).toNat := by omega
            rw [h1770] at f1765 f1766 f1767
            have K1771 : rK M0 M1754 o0 ((880 + ra M0 o0 6 44).toNat) := K1617.trans f1767
            have K1772 : nN M1754 o0 := K1618.same (sA_c I1608 J1757 (I1608.up h_o0) (by decide)) (sF_c I1608 J1757 (I1608.up h_o0) (by decide))
            have q1773 := J1757.keep t1615 (by decide) q1619
            have t1774 := J1757.up t1620
            have q1775 := J1757.keep t1615 (by decide) q1621
            refine mv_istore_n (lv' := [(3, .int v1760), (2, .int v1610), (1, .int v10), (0, .ref o0)]) d_TrustDeskModel_readClause_110 rfl (by decide) rfl ?_
            refine mv_iload_n d_TrustDeskModel_readClause_111 rfl rfl ?_
            have := mz_hi v10
            refine mv_if_eqZ (tgt := 123) (a := v10.toInt) d_TrustDeskModel_readClause_112 (by decide) rfl (fun b1776 => ?_) (fun b1776 => absurd b1776 (by omega))
            refine mv_iload_n d_TrustDeskModel_readClause_123 rfl rfl ?_
            have := mz_hi v1610
            refine mv_if_eqZ (tgt := 135) (a := v1610.toInt) d_TrustDeskModel_readClause_124 (by decide) rfl (fun b1777 => ?_) (fun b1777 => ?_)
            · refine mv_aload_n d_TrustDeskModel_readClause_135 rfl rfl ?_
              obtain ⟨a1779, q1778, t_a1779⟩ := tm_atR I1758 t1768 (k := 8) rfl
              refine tr_getK q1778 d_TrustDeskModel_readClause_136 f_TrustDeskModel_29_13 ?_
              refine mv_iload_n d_TrustDeskModel_readClause_139 rfl rfl ?_
              refine mv_aload_n d_TrustDeskModel_readClause_140 rfl rfl ?_
              refine mv_iconst (v := 1) d_TrustDeskModel_readClause_141 (by decide) ?_
              refine mv_bipush (v := 7) d_TrustDeskModel_readClause_142 (by decide) ?_
              obtain ⟨_, b1786, -⟩ := I1758.1 _ _ t1768
              have : (1 : Int32).toInt = 1 := by decide
              have : (7 : Int32).toInt = 7 := by decide
              refine mv_callV (kc' := 0) (ks' := 0) (As := [.int 1, .int 7]) (st9 := [.int 7, .int 1, .ref o0, .int v1760, .ref a1779]) d_TrustDeskModel_readClause_144 lV_TrustDeskModel_317 b1786 rfl (tc_TrustDeskModel_number_x (d := (d + 23)) (x9 := x9) (o0 := o0) (x1 := 1) (x2 := 7) t1768 R1761 E1769.1 (by have := R1761.1 15 _ _ rfl; have := R1761.1 16 _ _ rfl; have := R1761.1 19 _ _ rfl; have := E1769.f yS; omega) I1758.start) rfl (Nat.le_of_ble_eq_true rfl) (Nat.le_of_ble_eq_true rfl) (Nat.le_of_ble_eq_true rfl) (hst := rfl) (fun b1780r M1781 n1782 b1780 => ?_)
              obtain ⟨T1783, J1784, v1787, rfl, R1788, f1789, f1790⟩ := b1780
              have I1785 := I1758.call J1784 (tm_sub (by decide)) (Or.inl rfl)
              have t1791 := J1784.up t1768
              have t1792 := J1784.up t_a1779
              have := (rv_c I1758 J1784 (I1758.up h_o0) (k := 22) rfl)
              have := (rv_c I1758 J1784 (I1758.up h_o0) (k := 24) rfl)
              have := ra_call I1758 J1784 (I1758.up h_o0) (k := 5) rfl rfl rfl 44
              have := ra_call I1758 J1784 (I1758.up h_o0) (k := 6) rfl rfl rfl 44
              have E1793 : rE M0 M1781 o0 0 2 := E1769.trans f1789 (by decide) (yR.2 5 _ _ rfl 44).1 (by decide) (by decide)
              have := f1789.w
              have := f1789.w2
              have := ra_call I1758 J1784 (I1758.up h_o0) (k := 7) rfl rfl rfl ((880 + ra M0 o0 6 44).toNat)
              have := ra_call I1758 J1784 (I1758.up h_o0) (k := 10) rfl rfl rfl ((880 + ra M0 o0 6 44).toNat)
              have K1794 : rK M0 M1781 o0 ((880 + ra M0 o0 6 44).toNat) := K1771.same (sA_c I1758 J1784 (I1758.up h_o0) (by decide))
              have K1795 : nN M1781 o0 := K1772.same (sA_c I1758 J1784 (I1758.up h_o0) (by decide)) (sF_c I1758 J1784 (I1758.up h_o0) (by decide))
              have q1796 := J1784.keep t1768 (by decide) q1773
              have t1797 := J1784.up t1774
              have q1798 := J1784.keep t1768 (by decide) q1778
              refine tr_iastR (k := 8) I1785 R1788 (I1785.up h_o0) q1798 t1792 (by decide) (by decide) (fun lo hi h => by cases h; have := R1788.1 15 _ _ rfl; have := R1788.1 16 _ _ rfl; have := R1788.1 19 _ _ rfl; have := E1793.f yS; exact ⟨by show ((-1) : Int) ≤ v1787.toInt; omega, by show v1787.toInt ≤ (720 : Int); omega⟩) (Or.inl (by decide)) d_TrustDeskModel_readClause_147 (vp_in_iff.mpr (by have := R1788.1 15 _ _ rfl; have := R1788.1 16 _ _ rfl; have := R1788.1 19 _ _ rfl; have := E1793.f yS; omega)) (fun M1799 I1800 K1801 R1802 E1803 A1804 V1805 => ?_)
              have := V1805 15
              have := V1805 16
              have := V1805 17
              have := V1805 19
              have := V1805 22
              have := V1805 24
              have := A1804 5 (by decide) rfl 44
              have := A1804 6 (by decide) rfl 44
              have E1806 : rE M0 M1799 o0 0 2 := E1793.same (fun k _ _ => V1805 k) (fun k h1 h2 => A1804 k (by omega) (by rcases (show k = 4 ∨ k = 5 by omega) with rfl | rfl <;> rfl))
              have := A1804 7 (by decide) rfl ((880 + ra M0 o0 6 44).toNat)
              have := A1804 10 (by decide) rfl ((880 + ra M0 o0 6 44).toNat)
              have h1807 : (880 + ra M0 o0 6 44).toNat = v1760.toNatClampNeg := by have := mz_nat9 (i := v1760) (by have := R1788.1 15 _ _ rfl; have := R1788.1 16 _ _ rfl; have := R1788.1 19 _ _ rfl; have := E1793.f yS; omega); have := R1788.1 15 _ _ rfl; have := R1788.1 16 _ _ rfl; have := R1788.1 19 _ _ rfl; have := E1793.f yS; omega
              have : ra M1799 o0 8 ((880 + ra M0 o0 6 44).toNat) = v1787.toInt := (E1803 _).trans (if_pos h1807)
              have K1808 : rK M0 M1799 o0 ((880 + ra M0 o0 6 44).toNat) := K1794.st A1804 E1803 (by have := mz_nat9 (i := v1760) (by have := R1788.1 15 _ _ rfl; have := R1788.1 16 _ _ rfl; have := R1788.1 19 _ _ rfl; have := E1793.f yS; omega); have := R1788.1 15 _ _ rfl; have := R1788.1 16 _ _ rfl; have := R1788.1 19 _ _ rfl; have := E1793.f yS; omega)
              have K1809 : nN M1799 o0 := K1795.same (sA_a A1804 (by decide)) (sF_a V1805)
              refine mv_aload_n d_TrustDeskModel_readClause_148 rfl rfl ?_
              obtain ⟨a1811, q1810, t_a1811⟩ := tm_atR I1800 t1791 (k := 9) rfl
              refine tr_getK q1810 d_TrustDeskModel_readClause_149 f_TrustDeskModel_32_13 ?_
              refine mv_iload_n d_TrustDeskModel_readClause_152 rfl rfl ?_
              refine mv_aload_n d_TrustDeskModel_readClause_153 rfl rfl ?_
              refine mv_iconst (v := 1) d_TrustDeskModel_readClause_154 (by decide) ?_
              refine mv_aload_n d_TrustDeskModel_readClause_155 rfl rfl ?_
              refine tr_getK (k := 8) (K1801 _ 13 8 _ q1798) d_TrustDeskModel_readClause_156 f_TrustDeskModel_29_13 ?_
              refine mv_iload_n d_TrustDeskModel_readClause_159 rfl rfl ?_
              refine tr_ialdR (o := o0) (k := 8) I1800 (K1801 _ 13 8 _ q1798) t1792 (by decide) d_TrustDeskModel_readClause_160 (vp_in_iff.mpr (by have := R1802.1 15 _ _ rfl; have := R1802.1 16 _ _ rfl; have := R1802.1 19 _ _ rfl; have := E1806.f yS; omega)) (fun v1812 e1813 => ?_)
              have := R1802.a (k := 8) rfl (v1760 : Int32).toNatClampNeg
              have h1814 : (880 + ra M0 o0 6 44).toNat = v1760.toNatClampNeg := by have := mz_nat9 (i := v1760) (by have := R1802.1 15 _ _ rfl; have := R1802.1 16 _ _ rfl; have := R1802.1 19 _ _ rfl; have := E1806.f yS; omega); have := R1802.1 15 _ _ rfl; have := R1802.1 16 _ _ rfl; have := R1802.1 19 _ _ rfl; have := E1806.f yS; omega
              have : v1812.toInt = ra M1799 o0 8 ((880 + ra M0 o0 6 44).toNat) := by rw [e1813, h1814]
              obtain ⟨_, b1821, -⟩ := I1800.1 _ _ t1791
              have : (1 : Int32).toInt = 1 := by decide
              refine mv_callV (kc' := 0) (ks' := 0) (As := [.int 1, .int v1812]) (st9 := [.int v1812, .int 1, .ref o0, .int v1760, .ref a1811]) d_TrustDeskModel_readClause_161 lV_TrustDeskModel_317 b1821 rfl (tc_TrustDeskModel_number_x (d := (d + 23)) (x9 := x9) (o0 := o0) (x1 := 1) (x2 := v1812) t1791 R1802 E1806.1 (by have := R1802.1 15 _ _ rfl; have := R1802.1 16 _ _ rfl; have := R1802.1 19 _ _ rfl; have := E1806.f yS; omega) I1800.start) rfl (Nat.le_of_ble_eq_true rfl) (Nat.le_of_ble_eq_true rfl) (Nat.le_of_ble_eq_true rfl) (hst := rfl) (fun b1815r M1816 n1817 b1815 => ?_)
              obtain ⟨T1818, J1819, v1822, rfl, R1823, f1824, f1825⟩ := b1815
              have I1820 := I1800.call J1819 (tm_sub (by decide)) (Or.inl rfl)
              have t1826 := J1819.up t1791
              have t1827 := J1819.up t_a1811
              have := (rv_c I1800 J1819 (I1800.up h_o0) (k := 22) rfl)
              have := (rv_c I1800 J1819 (I1800.up h_o0) (k := 24) rfl)
              have := ra_call I1800 J1819 (I1800.up h_o0) (k := 5) rfl rfl rfl 44
              have := ra_call I1800 J1819 (I1800.up h_o0) (k := 6) rfl rfl rfl 44
              have E1828 : rE M0 M1816 o0 0 3 := E1806.trans f1824 (by decide) (yR.2 5 _ _ rfl 44).1 (by decide) (by decide)
              have := f1824.w
              have := f1824.w2
              have := ra_call I1800 J1819 (I1800.up h_o0) (k := 7) rfl rfl rfl ((880 + ra M0 o0 6 44).toNat)
              have := ra_call I1800 J1819 (I1800.up h_o0) (k := 10) rfl rfl rfl ((880 + ra M0 o0 6 44).toNat)
              have := ra_call I1800 J1819 (I1800.up h_o0) (k := 8) rfl rfl rfl ((880 + ra M0 o0 6 44).toNat)
              have K1829 : rK M0 M1816 o0 ((880 + ra M0 o0 6 44).toNat) := K1808.same (sA_c I1800 J1819 (I1800.up h_o0) (by decide))
              have K1830 : nN M1816 o0 := K1809.same (sA_c I1800 J1819 (I1800.up h_o0) (by decide)) (sF_c I1800 J1819 (I1800.up h_o0) (by decide))
              have q1831 := J1819.keep t1791 (by decide) (K1801 _ 13 6 _ q1796)
              have t1832 := J1819.up t1797
              have q1833 := J1819.keep t1791 (by decide) (K1801 _ 13 8 _ q1798)
              have t1834 := J1819.up t1792
              have q1835 := J1819.keep t1791 (by decide) q1810
              refine tr_iastR (k := 9) I1820 R1823 (I1820.up h_o0) q1835 t1827 (by decide) (by decide) (fun lo hi h => by cases h) (Or.inl (by decide)) d_TrustDeskModel_readClause_164 (vp_in_iff.mpr (by have := R1823.1 15 _ _ rfl; have := R1823.1 16 _ _ rfl; have := R1823.1 19 _ _ rfl; have := E1828.f yS; omega)) (fun M1836 I1837 K1838 R1839 E1840 A1841 V1842 => ?_)
              have := V1842 15
              have := V1842 16
              have := V1842 17
              have := V1842 19
              have := V1842 22
              have := V1842 24
              have := A1841 5 (by decide) rfl 44
              have := A1841 6 (by decide) rfl 44
              have E1843 : rE M0 M1836 o0 0 3 := E1828.same (fun k _ _ => V1842 k) (fun k h1 h2 => A1841 k (by omega) (by rcases (show k = 4 ∨ k = 5 by omega) with rfl | rfl <;> rfl))
              have := A1841 7 (by decide) rfl ((880 + ra M0 o0 6 44).toNat)
              have := A1841 10 (by decide) rfl ((880 + ra M0 o0 6 44).toNat)
              have := A1841 8 (by decide) rfl ((880 + ra M0 o0 6 44).toNat)
              have K1844 : rK M0 M1836 o0 ((880 + ra M0 o0 6 44).toNat) := K1829.same (sA_a A1841 (by decide))
              have K1845 : nN M1836 o0 := K1830.same (sA_a A1841 (by decide)) (sF_a V1842)
              refine mv_aload_n d_TrustDeskModel_readClause_165 rfl rfl ?_
              refine mv_bipush (v := 59) d_TrustDeskModel_readClause_166 (by decide) ?_
              obtain ⟨_, b1852, -⟩ := I1837.1 _ _ t1826
              have : (59 : Int32).toInt = 59 := by decide
              refine mv_callV (kc' := 0) (ks' := 0) (As := [.int 59]) (st9 := [.int 59, .ref o0]) d_TrustDeskModel_readClause_168 lV_TrustDeskModel_291 b1852 rfl (tc_TrustDeskModel_wantSign_x (d := (d + 23)) (x9 := x9) (o0 := o0) (x1 := 59) t1826 R1839 E1843.1 (by have := R1839.1 15 _ _ rfl; have := R1839.1 16 _ _ rfl; have := R1839.1 19 _ _ rfl; have := E1843.f yS; omega) I1837.start) rfl (Nat.le_of_ble_eq_true rfl) (Nat.le_of_ble_eq_true rfl) (Nat.le_of_ble_eq_true rfl) (hst := rfl) (fun b1846r M1847 n1848 b1846 => ?_)
              obtain ⟨T1849, J1850, rfl, R1853, f1854⟩ := b1846
              have I1851 := I1837.call J1850 (tm_sub (by decide)) (Or.inl rfl)
              have t1855 := J1850.up t1826
              have := (rv_c I1837 J1850 (I1837.up h_o0) (k := 22) rfl)
              have := (rv_c I1837 J1850 (I1837.up h_o0) (k := 24) rfl)
              have := ra_call I1837 J1850 (I1837.up h_o0) (k := 5) rfl rfl rfl 44
              have := ra_call I1837 J1850 (I1837.up h_o0) (k := 6) rfl rfl rfl 44
              have E1856 : rE M0 M1847 o0 0 4 := E1843.trans f1854 (by decide) (yR.2 5 _ _ rfl 44).1 (by decide) (by decide)
              have := f1854.w
              have := f1854.w2
              have := ra_call I1837 J1850 (I1837.up h_o0) (k := 7) rfl rfl rfl ((880 + ra M0 o0 6 44).toNat)
              have := ra_call I1837 J1850 (I1837.up h_o0) (k := 10) rfl rfl rfl ((880 + ra M0 o0 6 44).toNat)
              have := ra_call I1837 J1850 (I1837.up h_o0) (k := 8) rfl rfl rfl ((880 + ra M0 o0 6 44).toNat)
              have K1857 : rK M0 M1847 o0 ((880 + ra M0 o0 6 44).toNat) := K1844.same (sA_c I1837 J1850 (I1837.up h_o0) (by decide))
              have K1858 : nN M1847 o0 := K1845.same (sA_c I1837 J1850 (I1837.up h_o0) (by decide)) (sF_c I1837 J1850 (I1837.up h_o0) (by decide))
              have q1859 := J1850.keep t1826 (by decide) (K1838 _ 13 6 _ q1831)
              have t1860 := J1850.up t1832
              have q1861 := J1850.keep t1826 (by decide) (K1838 _ 13 8 _ q1833)
              have t1862 := J1850.up t1834
              have q1863 := J1850.keep t1826 (by decide) (K1838 _ 13 9 _ q1835)
              have t1864 := J1850.up t1827
              refine mv_aload_n d_TrustDeskModel_readClause_171 rfl rfl ?_
              obtain ⟨a1866, q1865, t_a1866⟩ := tm_atR I1851 t1855 (k := 12) rfl
              refine tr_getK q1865 d_TrustDeskModel_readClause_172 f_TrustDeskModel_41_13 ?_
              refine mv_iload_n d_TrustDeskModel_readClause_175 rfl rfl ?_
              refine mv_aload_n d_TrustDeskModel_readClause_176 rfl rfl ?_
              obtain ⟨a1868, q1867, t_a1868⟩ := tm_atR I1851 t1855 (k := 5) rfl
              refine tr_getK q1867 d_TrustDeskModel_readClause_177 f_TrustDeskModel_20_13 ?_
              refine mv_bipush (v := 44) d_TrustDeskModel_readClause_180 (by decide) ?_
              refine tr_ialdR (o := o0) (k := 5) I1851 q1867 t_a1868 (by decide) d_TrustDeskModel_readClause_182 (by unfold vp_in; decide) (fun v1869 e1870 => ?_)
              have := R1853.a (k := 5) rfl (44 : Int32).toNatClampNeg
              have : v1869.toInt = ra M1847 o0 5 44 := e1870
              refine tr_iastR (k := 12) I1851 R1853 (I1851.up h_o0) q1865 t_a1866 (by decide) (by decide) (fun lo hi h => by cases h; have := R1853.1 15 _ _ rfl; have := R1853.1 16 _ _ rfl; have := R1853.1 19 _ _ rfl; have := E1856.f yS; exact ⟨by show (0 : Int) ≤ v1869.toInt; omega, by show v1869.toInt ≤ (400 : Int); omega⟩) (Or.inl (by decide)) d_TrustDeskModel_readClause_183 (vp_in_iff.mpr (by have := R1853.1 15 _ _ rfl; have := R1853.1 16 _ _ rfl; have := R1853.1 19 _ _ rfl; have := E1856.f yS; omega)) (fun M1871 I1872 K1873 R1874 E1875 A1876 V1877 => ?_)
              have := V1877 15
              have := V1877 16
              have := V1877 17
              have := V1877 19
              have := V1877 22
              have := V1877 24
              have := A1876 5 (by decide) rfl 44
              have := A1876 6 (by decide) rfl 44
              have E1878 : rE M0 M1871 o0 0 4 := E1856.same (fun k _ _ => V1877 k) (fun k h1 h2 => A1876 k (by omega) (by rcases (show k = 4 ∨ k = 5 by omega) with rfl | rfl <;> rfl))
              have := A1876 7 (by decide) rfl ((880 + ra M0 o0 6 44).toNat)
              have := A1876 10 (by decide) rfl ((880 + ra M0 o0 6 44).toNat)
              have := A1876 8 (by decide) rfl ((880 + ra M0 o0 6 44).toNat)
              have h1879 : (880 + ra M0 o0 6 44).toNat = v1760.toNatClampNeg := by have := mz_nat9 (i := v1760) (by have := R1853.1 15 _ _ rfl; have := R1853.1 16 _ _ rfl; have := R1853.1 19 _ _ rfl; have := E1856.f yS; omega); have := R1853.1 15 _ _ rfl; have := R1853.1 16 _ _ rfl; have := R1853.1 19 _ _ rfl; have := E1856.f yS; omega
              have : ra M1871 o0 12 ((880 + ra M0 o0 6 44).toNat) = v1869.toInt := (E1875 _).trans (if_pos h1879)
              have K1880 : rK M0 M1871 o0 ((880 + ra M0 o0 6 44).toNat) := K1857.st A1876 E1875 (by have := mz_nat9 (i := v1760) (by have := R1853.1 15 _ _ rfl; have := R1853.1 16 _ _ rfl; have := R1853.1 19 _ _ rfl; have := E1856.f yS; omega); have := R1853.1 15 _ _ rfl; have := R1853.1 16 _ _ rfl; have := R1853.1 19 _ _ rfl; have := E1856.f yS; omega)
              have K1881 : nN M1871 o0 := K1858.same (sA_a A1876 (by decide)) (sF_a V1877)
              exact mv_vret d_TrustDeskModel_readClause_184 rfl ⟨_, I1872, rfl, R1874, (rW.of E1878.1 (fun w9 => (by have := R1874.1 15 _ _ rfl; have := R1874.1 16 _ _ rfl; have := R1874.1 19 _ _ rfl; have := E1878.f yS; omega)) (fun w9 => rG.step yG yR E1878 w9 K1880 (by have := yR.2 6 _ _ rfl 44; omega) (by have := R1874.1 15 _ _ rfl; have := R1874.1 16 _ _ rfl; have := R1874.1 19 _ _ rfl; have := E1878.f yS; omega) (by have := R1874.1 15 _ _ rfl; have := R1874.1 16 _ _ rfl; have := R1874.1 19 _ _ rfl; have := E1878.f yS; omega) (fun h9 => by exfalso; have := R1874.1 15 _ _ rfl; have := R1874.1 16 _ _ rfl; have := R1874.1 19 _ _ rfl; have := E1878.f yS; omega) (fun h9 => (by have := R1874.1 15 _ _ rfl; have := R1874.1 16 _ _ rfl; have := R1874.1 19 _ _ rfl; have := E1878.f yS; omega)) (by have := R1874.1 15 _ _ rfl; have := R1874.1 16 _ _ rfl; have := R1874.1 19 _ _ rfl; have := E1878.f yS; omega) K1881)), (rO.of E1878 K1880 (by have := yR.2 6 _ _ rfl 44; omega)), (by have := R1874.1 15 _ _ rfl; have := R1874.1 16 _ _ rfl; have := R1874.1 19 _ _ rfl; have := E1878.f yS; omega), (by have := R1874.1 15 _ _ rfl; have := R1874.1 16 _ _ rfl; have := R1874.1 19 _ _ rfl; have := E1878.f yS; omega), (fun h9 _ => absurd h9 (f16 (by have := R1874.1 15 _ _ rfl; have := R1874.1 16 _ _ rfl; have := R1874.1 19 _ _ rfl; have := E1878.f yS; omega)))⟩
            · refine mv_aload_n d_TrustDeskModel_readClause_127 rfl rfl ?_
              refine mv_iload_n d_TrustDeskModel_readClause_128 rfl rfl ?_
              obtain ⟨_, b1888, -⟩ := I1758.1 _ _ t1768
              refine mv_callV (kc' := 0) (ks' := 0) (As := [.int v1760]) (st9 := [.int v1760, .ref o0]) d_TrustDeskModel_readClause_129 lV_TrustDeskModel_348 b1888 rfl (tc_TrustDeskModel_readMarks_x (d := (d + 22)) (x9 := x9) (o0 := o0) (x1 := v1760) t1768 R1761 E1769.1 (by have := R1761.1 15 _ _ rfl; have := R1761.1 16 _ _ rfl; have := R1761.1 19 _ _ rfl; have := E1769.f yS; omega) (by have := R1761.1 15 _ _ rfl; have := R1761.1 16 _ _ rfl; have := R1761.1 19 _ _ rfl; have := E1769.f yS; omega) I1758.start) rfl (Nat.le_of_ble_eq_true rfl) (Nat.le_of_ble_eq_true rfl) (Nat.le_of_ble_eq_true rfl) (hst := rfl) (fun b1882r M1883 n1884 b1882 => ?_)
              obtain ⟨T1885, J1886, rfl, R1889, f1890, f1891, f1892⟩ := b1882
              have I1887 := I1758.call J1886 (tm_sub (by decide)) (Or.inl rfl)
              have t1893 := J1886.up t1768
              have := (rv_c I1758 J1886 (I1758.up h_o0) (k := 22) rfl)
              have := (rv_c I1758 J1886 (I1758.up h_o0) (k := 24) rfl)
              have := ra_call I1758 J1886 (I1758.up h_o0) (k := 5) rfl rfl rfl 44
              have := ra_call I1758 J1886 (I1758.up h_o0) (k := 6) rfl rfl rfl 44
              have E1894 : rE M0 M1883 o0 0 1 := E1769.trans f1890 (by decide) (yR.2 5 _ _ rfl 44).1 (by decide) (by decide)
              have := f1890.w
              have := f1890.w2
              have := ra_call I1758 J1886 (I1758.up h_o0) (k := 7) rfl rfl rfl ((880 + ra M0 o0 6 44).toNat)
              have := ra_call I1758 J1886 (I1758.up h_o0) (k := 10) rfl rfl rfl ((880 + ra M0 o0 6 44).toNat)
              have h1895 : v1760.toNatClampNeg = (880 + ra M0 o0 6 44).toNat := by have := mz_nat9 (i := v1760) (by have := R1761.1 15 _ _ rfl; have := R1761.1 16 _ _ rfl; have := R1761.1 19 _ _ rfl; have := E1769.f yS; omega); have := R1761.1 15 _ _ rfl; have := R1761.1 16 _ _ rfl; have := R1761.1 19 _ _ rfl; have := E1769.f yS; omega
              rw [h1895] at f1891 f1892
              have K1896 : rK M0 M1883 o0 ((880 + ra M0 o0 6 44).toNat) := K1771.one8 (sA_c I1758 J1886 (I1758.up h_o0) (by decide)) f1891
              have K1897 : nN M1883 o0 := K1772.same (sA_c I1758 J1886 (I1758.up h_o0) (by decide)) (sF_c I1758 J1886 (I1758.up h_o0) (by decide))
              have q1898 := J1886.keep t1768 (by decide) q1773
              have t1899 := J1886.up t1774
              refine mv_goto (tgt := 165) d_TrustDeskModel_readClause_132 (by decide) ?_
              refine mv_aload_n d_TrustDeskModel_readClause_165 rfl rfl ?_
              refine mv_bipush (v := 59) d_TrustDeskModel_readClause_166 (by decide) ?_
              obtain ⟨_, b1906, -⟩ := I1887.1 _ _ t1893
              have : (59 : Int32).toInt = 59 := by decide
              refine mv_callV (kc' := 0) (ks' := 0) (As := [.int 59]) (st9 := [.int 59, .ref o0]) d_TrustDeskModel_readClause_168 lV_TrustDeskModel_291 b1906 rfl (tc_TrustDeskModel_wantSign_x (d := (d + 23)) (x9 := x9) (o0 := o0) (x1 := 59) t1893 R1889 E1894.1 (by have := R1889.1 15 _ _ rfl; have := R1889.1 16 _ _ rfl; have := R1889.1 19 _ _ rfl; have := E1894.f yS; omega) I1887.start) rfl (Nat.le_of_ble_eq_true rfl) (Nat.le_of_ble_eq_true rfl) (Nat.le_of_ble_eq_true rfl) (hst := rfl) (fun b1900r M1901 n1902 b1900 => ?_)
              obtain ⟨T1903, J1904, rfl, R1907, f1908⟩ := b1900
              have I1905 := I1887.call J1904 (tm_sub (by decide)) (Or.inl rfl)
              have t1909 := J1904.up t1893
              have := (rv_c I1887 J1904 (I1887.up h_o0) (k := 22) rfl)
              have := (rv_c I1887 J1904 (I1887.up h_o0) (k := 24) rfl)
              have := ra_call I1887 J1904 (I1887.up h_o0) (k := 5) rfl rfl rfl 44
              have := ra_call I1887 J1904 (I1887.up h_o0) (k := 6) rfl rfl rfl 44
              have E1910 : rE M0 M1901 o0 0 2 := E1894.trans f1908 (by decide) (yR.2 5 _ _ rfl 44).1 (by decide) (by decide)
              have := f1908.w
              have := f1908.w2
              have := ra_call I1887 J1904 (I1887.up h_o0) (k := 7) rfl rfl rfl ((880 + ra M0 o0 6 44).toNat)
              have := ra_call I1887 J1904 (I1887.up h_o0) (k := 10) rfl rfl rfl ((880 + ra M0 o0 6 44).toNat)
              have := ra_call I1887 J1904 (I1887.up h_o0) (k := 8) rfl rfl rfl ((880 + ra M0 o0 6 44).toNat)
              have K1911 : rK M0 M1901 o0 ((880 + ra M0 o0 6 44).toNat) := K1896.same (sA_c I1887 J1904 (I1887.up h_o0) (by decide))
              have K1912 : nN M1901 o0 := K1897.same (sA_c I1887 J1904 (I1887.up h_o0) (by decide)) (sF_c I1887 J1904 (I1887.up h_o0) (by decide))
              have q1913 := J1904.keep t1893 (by decide) q1898
              have t1914 := J1904.up t1899
              refine mv_aload_n d_TrustDeskModel_readClause_171 rfl rfl ?_
              obtain ⟨a1916, q1915, t_a1916⟩ := tm_atR I1905 t1909 (k := 12) rfl
              refine tr_getK q1915 d_TrustDeskModel_readClause_172 f_TrustDeskModel_41_13 ?_
              refine mv_iload_n d_TrustDeskModel_readClause_175 rfl rfl ?_
              refine mv_aload_n d_TrustDeskModel_readClause_176 rfl rfl ?_
              obtain ⟨a1918, q1917, t_a1918⟩ := tm_atR I1905 t1909 (k := 5) rfl
              refine tr_getK q1917 d_TrustDeskModel_readClause_177 f_TrustDeskModel_20_13 ?_
              refine mv_bipush (v := 44) d_TrustDeskModel_readClause_180 (by decide) ?_
              refine tr_ialdR (o := o0) (k := 5) I1905 q1917 t_a1918 (by decide) d_TrustDeskModel_readClause_182 (by unfold vp_in; decide) (fun v1919 e1920 => ?_)
              have := R1907.a (k := 5) rfl (44 : Int32).toNatClampNeg
              have : v1919.toInt = ra M1901 o0 5 44 := e1920
              refine tr_iastR (k := 12) I1905 R1907 (I1905.up h_o0) q1915 t_a1916 (by decide) (by decide) (fun lo hi h => by cases h; have := R1907.1 15 _ _ rfl; have := R1907.1 16 _ _ rfl; have := R1907.1 19 _ _ rfl; have := E1910.f yS; exact ⟨by show (0 : Int) ≤ v1919.toInt; omega, by show v1919.toInt ≤ (400 : Int); omega⟩) (Or.inl (by decide)) d_TrustDeskModel_readClause_183 (vp_in_iff.mpr (by have := R1907.1 15 _ _ rfl; have := R1907.1 16 _ _ rfl; have := R1907.1 19 _ _ rfl; have := E1910.f yS; omega)) (fun M1921 I1922 K1923 R1924 E1925 A1926 V1927 => ?_)
              have := V1927 15
              have := V1927 16
              have := V1927 17
              have := V1927 19
              have := V1927 22
              have := V1927 24
              have := A1926 5 (by decide) rfl 44
              have := A1926 6 (by decide) rfl 44
              have E1928 : rE M0 M1921 o0 0 2 := E1910.same (fun k _ _ => V1927 k) (fun k h1 h2 => A1926 k (by omega) (by rcases (show k = 4 ∨ k = 5 by omega) with rfl | rfl <;> rfl))
              have := A1926 7 (by decide) rfl ((880 + ra M0 o0 6 44).toNat)
              have := A1926 10 (by decide) rfl ((880 + ra M0 o0 6 44).toNat)
              have := A1926 8 (by decide) rfl ((880 + ra M0 o0 6 44).toNat)
              have h1929 : (880 + ra M0 o0 6 44).toNat = v1760.toNatClampNeg := by have := mz_nat9 (i := v1760) (by have := R1907.1 15 _ _ rfl; have := R1907.1 16 _ _ rfl; have := R1907.1 19 _ _ rfl; have := E1910.f yS; omega); have := R1907.1 15 _ _ rfl; have := R1907.1 16 _ _ rfl; have := R1907.1 19 _ _ rfl; have := E1910.f yS; omega
              have : ra M1921 o0 12 ((880 + ra M0 o0 6 44).toNat) = v1919.toInt := (E1925 _).trans (if_pos h1929)
              have K1930 : rK M0 M1921 o0 ((880 + ra M0 o0 6 44).toNat) := K1911.st A1926 E1925 (by have := mz_nat9 (i := v1760) (by have := R1907.1 15 _ _ rfl; have := R1907.1 16 _ _ rfl; have := R1907.1 19 _ _ rfl; have := E1910.f yS; omega); have := R1907.1 15 _ _ rfl; have := R1907.1 16 _ _ rfl; have := R1907.1 19 _ _ rfl; have := E1910.f yS; omega)
              have K1931 : nN M1921 o0 := K1912.same (sA_a A1926 (by decide)) (sF_a V1927)
              exact mv_vret d_TrustDeskModel_readClause_184 rfl ⟨_, I1922, rfl, R1924, (rW.of E1928.1 (fun w9 => (by have := R1924.1 15 _ _ rfl; have := R1924.1 16 _ _ rfl; have := R1924.1 19 _ _ rfl; have := E1928.f yS; omega)) (fun w9 => rG.step yG yR E1928 w9 K1930 (by have := yR.2 6 _ _ rfl 44; omega) (by have := R1924.1 15 _ _ rfl; have := R1924.1 16 _ _ rfl; have := R1924.1 19 _ _ rfl; have := E1928.f yS; omega) (by have := R1924.1 15 _ _ rfl; have := R1924.1 16 _ _ rfl; have := R1924.1 19 _ _ rfl; have := E1928.f yS; omega) (fun h9 => by exfalso; have := R1924.1 15 _ _ rfl; have := R1924.1 16 _ _ rfl; have := R1924.1 19 _ _ rfl; have := E1928.f yS; omega) (fun h9 => (by have := R1924.1 15 _ _ rfl; have := R1924.1 16 _ _ rfl; have := R1924.1 19 _ _ rfl; have := E1928.f yS; omega)) (by have := R1924.1 15 _ _ rfl; have := R1924.1 16 _ _ rfl; have := R1924.1 19 _ _ rfl; have := E1928.f yS; omega) K1931)), (rO.of E1928 K1930 (by have := yR.2 6 _ _ rfl 44; omega)), (by have := R1924.1 15 _ _ rfl; have := R1924.1 16 _ _ rfl; have := R1924.1 19 _ _ rfl; have := E1928.f yS; omega), (by have := R1924.1 15 _ _ rfl; have := R1924.1 16 _ _ rfl; have := R1924.1 19 _ _ rfl; have := E1928.f yS; omega), (fun h9 _ => absurd h9 (f16 (by have := R1924.1 15 _ _ rfl; have := R1924.1 16 _ _ rfl; have := R1924.1 19 _ _ rfl; have := E1928.f yS; omega)))⟩
    · refine mv_aload_n d_TrustDeskModel_readClause_22 rfl rfl ?_
      refine mv_ldcSw (id := 44) (tx := "trust") d_TrustDeskModel_readClause_23 (List.mem_of_getElem? (i := 34) rfl) ?_
      obtain ⟨_, b1938, -⟩ := I1562.1 _ _ t1569
      refine mv_callV (kc' := 0) (ks' := 0) (As := [.ref 44]) (st9 := [.ref 44, .ref o0]) d_TrustDeskModel_readClause_26 lV_TrustDeskModel_244 b1938 rfl (tc_TrustDeskModel_isWord_s1_44_x (d := (d + 21)) (x9 := x9) (o0 := o0) t1569 R1567 I1562.start) rfl (Nat.le_of_ble_eq_true rfl) (Nat.le_of_ble_eq_true rfl) (Nat.le_of_ble_eq_true rfl) (hst := rfl) (fun b1932r M1933 n1934 b1932 => ?_)
      obtain ⟨T1935, J1936, v1939, rfl, b1940, b1941, R1942, f1943⟩ := b1932
      have I1937 := I1562.call J1936 (tm_sub (by decide)) (Or.inl rfl)
      have t1944 := J1936.up t1569
      have := (rv_c I1562 J1936 (I1562.up h_o0) (k := 15) rfl)
      have := (rv_c I1562 J1936 (I1562.up h_o0) (k := 16) rfl)
      have := (rv_c I1562 J1936 (I1562.up h_o0) (k := 17) rfl)
      have := (rv_c I1562 J1936 (I1562.up h_o0) (k := 19) rfl)
      have := (rv_c I1562 J1936 (I1562.up h_o0) (k := 22) rfl)
      have := (rv_c I1562 J1936 (I1562.up h_o0) (k := 24) rfl)
      have := ra_call I1562 J1936 (I1562.up h_o0) (k := 5) rfl rfl rfl 44
      have := ra_call I1562 J1936 (I1562.up h_o0) (k := 6) rfl rfl rfl 44
      have E1945 : rE M0 M1933 o0 0 0 := E1570.same (rE_hv I1562 J1936 (I1562.up h_o0) 15 19 (by decide)) (rE_ha I1562 J1936 (I1562.up h_o0) (by decide))
      have K1946 : rK M0 M1933 o0 ((880 + ra M0 o0 6 44).toNat) := K1571.same (sA_c I1562 J1936 (I1562.up h_o0) (by decide))
      have K1947 : nN M1933 o0 := K1572.same (sA_c I1562 J1936 (I1562.up h_o0) (by decide)) (sF_c I1562 J1936 (I1562.up h_o0) (by decide))
      have := mz_hi v1939
      refine mv_if_neZ (tgt := 40) (a := v1939.toInt) d_TrustDeskModel_readClause_29 (by decide) rfl (fun b1948 => ?_) (fun b1948 => ?_)
      · refine mv_aload_n d_TrustDeskModel_readClause_40 rfl rfl ?_
        obtain ⟨a1950, q1949, t_a1950⟩ := tm_atR I1937 t1944 (k := 6) rfl
        refine tr_getK q1949 d_TrustDeskModel_readClause_41 f_TrustDeskModel_23_13 ?_
        refine mv_bipush (v := 44) d_TrustDeskModel_readClause_44 (by decide) ?_
        refine tr_ialdR (o := o0) (k := 6) I1937 q1949 t_a1950 (by decide) d_TrustDeskModel_readClause_46 (by unfold vp_in; decide) (fun v1951 e1952 => ?_)
        have := R1942.a (k := 6) rfl (44 : Int32).toNatClampNeg
        have : v1951.toInt = ra M1933 o0 6 44 := e1952
        refine mv_bipush (v := 12) d_TrustDeskModel_readClause_47 (by decide) ?_
        have := mz_hi v1951
        refine mv_icmp_eqZ (tgt := 65) (a := v1951.toInt) (b := 12) d_TrustDeskModel_readClause_49 (by decide) rfl (by decide) (fun b1953 => ?_) (fun b1953 => ?_)
        · refine mv_aload_n d_TrustDeskModel_readClause_65 rfl rfl ?_
          refine mv_iconst (v := 4) d_TrustDeskModel_readClause_66 (by decide) ?_
          obtain ⟨_, b1960, -⟩ := I1937.1 _ _ t1944
          have : (4 : Int32).toInt = 4 := by decide
          refine mv_callV (kc' := 0) (ks' := 0) (As := [.int 4]) (st9 := [.int 4, .ref o0]) d_TrustDeskModel_readClause_67 lV_TrustDeskModel_240 b1960 rfl (tc_TrustDeskModel_fails_x (d := (d + 25)) (x9 := x9) (o0 := o0) (x1 := 4) t1944 R1942 (by decide) I1937.start) rfl (Nat.le_of_ble_eq_true rfl) (Nat.le_of_ble_eq_true rfl) (Nat.le_of_ble_eq_true rfl) (hst := rfl) (fun b1954r M1955 n1956 b1954 => ?_)
          obtain ⟨T1957, J1958, rfl, R1961, f1962⟩ := b1954
          have I1959 := I1937.call J1958 (tm_sub (by decide)) (Or.inl rfl)
          have t1963 := J1958.up t1944
          have := (rv_c I1937 J1958 (I1937.up h_o0) (k := 15) rfl)
          have := (rv_c I1937 J1958 (I1937.up h_o0) (k := 16) rfl)
          have := (rv_c I1937 J1958 (I1937.up h_o0) (k := 17) rfl)
          have := (rv_c I1937 J1958 (I1937.up h_o0) (k := 22) rfl)
          have := (rv_c I1937 J1958 (I1937.up h_o0) (k := 24) rfl)
          have := ra_call I1937 J1958 (I1937.up h_o0) (k := 5) rfl rfl rfl 44
          have := ra_call I1937 J1958 (I1937.up h_o0) (k := 6) rfl rfl rfl 44
          have E1964 : rE M0 M1955 o0 0 0 := E1945.fails (rE_hv I1937 J1958 (I1937.up h_o0) 15 18 (by decide)) (rE_ha I1937 J1958 (I1937.up h_o0) (by decide)) f1962 0 0
          have K1965 : rK M0 M1955 o0 ((880 + ra M0 o0 6 44).toNat) := K1946.same (sA_c I1937 J1958 (I1937.up h_o0) (by decide))
          have K1966 : nN M1955 o0 := K1947.same (sA_c I1937 J1958 (I1937.up h_o0) (by decide)) (sF_c I1937 J1958 (I1937.up h_o0) (by decide))
          have q1967 := J1958.keep t1944 (by decide) q1949
          have t1968 := J1958.up t_a1950
          refine mv_aload_n d_TrustDeskModel_readClause_70 rfl rfl ?_
          obtain ⟨_, b1969, -⟩ := I1959.1 _ _ t1963
          refine mv_callV (kc1 := 0) (ks1 := 0) (kc' := 0) (ks' := 0) (As := []) (st9 := [.ref o0]) d_TrustDeskModel_readClause_71 lV_TrustDeskModel_230 b1969 rfl (mj_enter (by decide) (Nat.le_of_ble_eq_true rfl) ?_) rfl (Nat.le_of_ble_eq_true rfl) (Nat.le_of_ble_eq_true rfl) (Nat.le_of_ble_eq_true rfl) (hst := rfl) (fun _ _ _ h => h)
          refine mv_aload_n d_TrustDeskModel_isWell_0 rfl rfl ?_
          obtain ⟨v1971, q1970⟩ := tm_atI I1959 t1963 (k := 19) rfl
          refine tr_getK q1970 d_TrustDeskModel_isWell_1 f_TrustDeskModel_224_13 ?_
          have := R1961.f (k := 19) q1970 rfl
          have := tm_rv q1970
          refine mv_if_neZ (tgt := 11) (a := v1971.toInt) d_TrustDeskModel_isWell_4 (by decide) rfl (fun b1972 => ?_) (fun b1972 => ?_)
          · refine mv_iconst (v := 0) d_TrustDeskModel_isWell_11 (by decide) ?_
            refine mv_iret d_TrustDeskModel_isWell_12 rfl (by decide) ?_
            refine mv_if_ne_f (tgt := 78) d_TrustDeskModel_readClause_74 (by decide) (by decide) ?_
            exact mv_vret d_TrustDeskModel_readClause_77 rfl ⟨_, I1959, rfl, R1961, (rW.of E1964.1 (fun h9 => absurd h9 (by have := R1961.1 15 _ _ rfl; have := R1961.1 16 _ _ rfl; have := R1961.1 19 _ _ rfl; have := E1964.f yS; omega)) (fun h9 => absurd h9 (by have := R1961.1 15 _ _ rfl; have := R1961.1 16 _ _ rfl; have := R1961.1 19 _ _ rfl; have := E1964.f yS; omega))), (rO.of E1964 K1965 (by have := yR.2 6 _ _ rfl 44; omega)), (by have := R1961.1 15 _ _ rfl; have := R1961.1 16 _ _ rfl; have := R1961.1 19 _ _ rfl; have := E1964.f yS; omega), (by have := R1961.1 15 _ _ rfl; have := R1961.1 16 _ _ rfl; have := R1961.1 19 _ _ rfl; have := E1964.f yS; omega), (fun _ h9 => absurd h9 (by have := R1961.1 15 _ _ rfl; have := R1961.1 16 _ _ rfl; have := R1961.1 19 _ _ rfl; have := E1964.f yS; omega))⟩
          · exfalso
            have := R1961.1 15 _ _ rfl; have := R1961.1 16 _ _ rfl; have := R1961.1 19 _ _ rfl; have := E1964.f yS; omega
        · refine mv_iload_n d_TrustDeskModel_readClause_52 rfl rfl ?_
          have := mz_hi v10
          refine mv_if_eqZ (tgt := 70) (a := v10.toInt) d_TrustDeskModel_readClause_53 (by decide) rfl (fun b1973 => ?_) (fun b1973 => absurd b1973 (by omega))
          refine mv_aload_n d_TrustDeskModel_readClause_70 rfl rfl ?_
          obtain ⟨_, b1974, -⟩ := I1937.1 _ _ t1944
          refine mv_callV (kc1 := 0) (ks1 := 0) (kc' := 0) (ks' := 0) (As := []) (st9 := [.ref o0]) d_TrustDeskModel_readClause_71 lV_TrustDeskModel_230 b1974 rfl (mj_enter (by decide) (Nat.le_of_ble_eq_true rfl) ?_) rfl (Nat.le_of_ble_eq_true rfl) (Nat.le_of_ble_eq_true rfl) (Nat.le_of_ble_eq_true rfl) (hst := rfl) (fun _ _ _ h => h)
          refine mv_aload_n d_TrustDeskModel_isWell_0 rfl rfl ?_
          obtain ⟨v1976, q1975⟩ := tm_atI I1937 t1944 (k := 19) rfl
          refine tr_getK q1975 d_TrustDeskModel_isWell_1 f_TrustDeskModel_224_13 ?_
          have := R1942.f (k := 19) q1975 rfl
          have := tm_rv q1975
          have := mz_hi v1976
          refine mv_if_neZ (tgt := 11) (a := v1976.toInt) d_TrustDeskModel_isWell_4 (by decide) rfl (fun b1977 => ?_) (fun b1977 => ?_)
          · refine mv_iconst (v := 0) d_TrustDeskModel_isWell_11 (by decide) ?_
            refine mv_iret d_TrustDeskModel_isWell_12 rfl (by decide) ?_
            refine mv_if_ne_f (tgt := 78) d_TrustDeskModel_readClause_74 (by decide) (by decide) ?_
            exact mv_vret d_TrustDeskModel_readClause_77 rfl ⟨_, I1937, rfl, R1942, (rW.of E1945.1 (fun w9 => (by have := R1942.1 15 _ _ rfl; have := R1942.1 16 _ _ rfl; have := R1942.1 19 _ _ rfl; have := E1945.f yS; omega)) (fun w9 => rG.step yG yR E1945 w9 K1946 (by have := yR.2 6 _ _ rfl 44; omega) (by have := R1942.1 15 _ _ rfl; have := R1942.1 16 _ _ rfl; have := R1942.1 19 _ _ rfl; have := E1945.f yS; omega) (by have := R1942.1 15 _ _ rfl; have := R1942.1 16 _ _ rfl; have := R1942.1 19 _ _ rfl; have := E1945.f yS; omega) (fun h9 => by exfalso; have := R1942.1 15 _ _ rfl; have := R1942.1 16 _ _ rfl; have := R1942.1 19 _ _ rfl; have := E1945.f yS; omega) (fun h9 => (by have := R1942.1 15 _ _ rfl; have := R1942.1 16 _ _ rfl; have := R1942.1 19 _ _ rfl; have := E1945.f yS; omega)) (by have := R1942.1 15 _ _ rfl; have := R1942.1 16 _ _ rfl; have := R1942.1 19 _ _ rfl; have := E1945.f yS; omega) K1947)), (rO.of E1945 K1946 (by have := yR.2 6 _ _ rfl 44; omega)), (by have := R1942.1 15 _ _ rfl; have := R1942.1 16 _ _ rfl; have := R1942.1 19 _ _ rfl; have := E1945.f yS; omega), (by have := R1942.1 15 _ _ rfl; have := R1942.1 16 _ _ rfl; have := R1942.1 19 _ _ rfl; have := E1945.f yS; omega), (fun h9 _ => absurd h9 (f16 (by have := R1942.1 15 _ _ rfl; have := R1942.1 16 _ _ rfl; have := R1942.1 19 _ _ rfl; have := E1945.f yS; omega)))⟩
          · refine mv_iconst (v := 1) d_TrustDeskModel_isWell_7 (by decide) ?_
            refine mv_goto (tgt := 12) d_TrustDeskModel_isWell_8 (by decide) ?_
            refine mv_iret d_TrustDeskModel_isWell_12 rfl (by decide) ?_
            refine mv_if_ne_t (tgt := 78) d_TrustDeskModel_readClause_74 (by decide) (by decide) ?_
            refine mv_aload_n d_TrustDeskModel_readClause_78 rfl rfl ?_
            refine mv_ldcSw (id := 43) (tx := "mark") d_TrustDeskModel_readClause_79 (List.mem_of_getElem? (i := 33) rfl) ?_
            obtain ⟨_, b1984, -⟩ := I1937.1 _ _ t1944
            refine mv_callV (kc' := 0) (ks' := 0) (As := [.ref 43]) (st9 := [.ref 43, .ref o0]) d_TrustDeskModel_readClause_82 lV_TrustDeskModel_244 b1984 rfl (tc_TrustDeskModel_isWord_s1_43_x (d := (d + 21)) (x9 := x9) (o0 := o0) t1944 R1942 I1937.start) rfl (Nat.le_of_ble_eq_true rfl) (Nat.le_of_ble_eq_true rfl) (Nat.le_of_ble_eq_true rfl) (hst := rfl) (fun b1978r M1979 n1980 b1978 => ?_)
            obtain ⟨T1981, J1982, v1985, rfl, b1986, b1987, R1988, f1989⟩ := b1978
            have I1983 := I1937.call J1982 (tm_sub (by decide)) (Or.inl rfl)
            have t1990 := J1982.up t1944
            have := (rv_c I1937 J1982 (I1937.up h_o0) (k := 15) rfl)
            have := (rv_c I1937 J1982 (I1937.up h_o0) (k := 16) rfl)
            have := (rv_c I1937 J1982 (I1937.up h_o0) (k := 17) rfl)
            have := (rv_c I1937 J1982 (I1937.up h_o0) (k := 19) rfl)
            have := (rv_c I1937 J1982 (I1937.up h_o0) (k := 22) rfl)
            have := (rv_c I1937 J1982 (I1937.up h_o0) (k := 24) rfl)
            have := ra_call I1937 J1982 (I1937.up h_o0) (k := 5) rfl rfl rfl 44
            have := ra_call I1937 J1982 (I1937.up h_o0) (k := 6) rfl rfl rfl 44
            have E1991 : rE M0 M1979 o0 0 0 := E1945.same (rE_hv I1937 J1982 (I1937.up h_o0) 15 19 (by decide)) (rE_ha I1937 J1982 (I1937.up h_o0) (by decide))
            have K1992 : rK M0 M1979 o0 ((880 + ra M0 o0 6 44).toNat) := K1946.same (sA_c I1937 J1982 (I1937.up h_o0) (by decide))
            have K1993 : nN M1979 o0 := K1947.same (sA_c I1937 J1982 (I1937.up h_o0) (by decide)) (sF_c I1937 J1982 (I1937.up h_o0) (by decide))
            have q1994 := J1982.keep t1944 (by decide) q1949
            have t1995 := J1982.up t_a1950
            have q1996 := J1982.keep t1944 (by decide) q1975
            refine mv_istore_n (lv' := [(2, .int v1985), (1, .int v10), (0, .ref o0)]) d_TrustDeskModel_readClause_85 rfl (by decide) rfl ?_
            refine mv_aload_n d_TrustDeskModel_readClause_86 rfl rfl ?_
            refine mv_iload_n d_TrustDeskModel_readClause_87 rfl rfl ?_
            have := mz_hi v10
            refine mv_if_eqZ (tgt := 96) (a := v10.toInt) d_TrustDeskModel_readClause_88 (by decide) rfl (fun b1997 => ?_) (fun b1997 => absurd b1997 (by omega))
            refine mv_iload_n d_TrustDeskModel_readClause_96 rfl rfl ?_
            have := mz_hi v1985
            refine mv_if_eqZ (tgt := 105) (a := v1985.toInt) d_TrustDeskModel_readClause_97 (by decide) rfl (fun b1998 => ?_) (fun b1998 => ?_)
            · refine mv_bipush (v := 9) d_TrustDeskModel_readClause_105 (by decide) ?_
              obtain ⟨_, b2005, -⟩ := I1983.1 _ _ t1990
              have : (9 : Int32).toInt = 9 := by decide
              refine mv_callV (kc' := 0) (ks' := 0) (As := [.int 9]) (st9 := [.int 9, .ref o0]) d_TrustDeskModel_readClause_107 lV_TrustDeskModel_342 b2005 rfl (tc_TrustDeskModel_begin_x (d := (d + 23)) (x9 := x9) (o0 := o0) (x1 := 9) t1990 R1988 E1991.1 (by have := R1988.1 15 _ _ rfl; have := R1988.1 16 _ _ rfl; have := R1988.1 19 _ _ rfl; have := E1991.f yS; omega) (by have := R1988.1 15 _ _ rfl; have := R1988.1 16 _ _ rfl; have := R1988.1 19 _ _ rfl; have := E1991.f yS; omega) (by have := R1988.1 15 _ _ rfl; have := R1988.1 16 _ _ rfl; have := R1988.1 19 _ _ rfl; have := E1991.f yS; omega) (by have := R1988.1 15 _ _ rfl; have := R1988.1 16 _ _ rfl; have := R1988.1 19 _ _ rfl; have := E1991.f yS; omega) I1983.start) rfl (Nat.le_of_ble_eq_true rfl) (Nat.le_of_ble_eq_true rfl) (Nat.le_of_ble_eq_true rfl) (hst := rfl) (fun b1999r M2000 n2001 b1999 => ?_)
              obtain ⟨T2002, J2003, v2006, rfl, R2007, f2008, f2009, f2010, f2011, f2012, f2013⟩ := b1999
              have I2004 := I1983.call J2003 (tm_sub (by decide)) (Or.inl rfl)
              have t2014 := J2003.up t1990
              have := (rv_c I1983 J2003 (I1983.up h_o0) (k := 19) rfl)
              have := (rv_c I1983 J2003 (I1983.up h_o0) (k := 22) rfl)
              have := (rv_c I1983 J2003 (I1983.up h_o0) (k := 24) rfl)
              have := ra_call I1983 J2003 (I1983.up h_o0) (k := 5) rfl rfl rfl 44
              have E2015 : rE M0 M2000 o0 0 1 := E1991.trans f2008 (by decide) (yR.2 5 _ _ rfl 44).1 (by decide) (by decide)
              have := f2008.w
              have := f2008.w2
              have h2016 : (880 + ra M1979 o0 6 44).toNat = (880 + ra M0 o0 6 44).toNat := by omega
              rw [h2016] at f2011 f2012 f2013
              have K2017 : rK M0 M2000 o0 ((880 + ra M0 o0 6 44).toNat) := K1992.trans f2013
              have K2018 : nN M2000 o0 := K1993.same (sA_c I1983 J2003 (I1983.up h_o0) (by decide)) (sF_c I1983 J2003 (I1983.up h_o0) (by decide))
              have q2019 := J2003.keep t1990 (by decide) q1994
              have t2020 := J2003.up t1995
              have q2021 := J2003.keep t1990 (by decide) q1996
              refine mv_istore_n (lv' := [(3, .int v2006), (2, .int v1985), (1, .int v10), (0, .ref o0)]) d_TrustDeskModel_readClause_110 rfl (by decide) rfl ?_
              refine mv_iload_n d_TrustDeskModel_readClause_111 rfl rfl ?_
              have := mz_hi v10
              refine mv_if_eqZ (tgt := 123) (a := v10.toInt) d_TrustDeskModel_readClause_112 (by decide) rfl (fun b2022 => ?_) (fun b2022 => absurd b2022 (by omega))
              refine mv_iload_n d_TrustDeskModel_readClause_123 rfl rfl ?_
              have := mz_hi v1985
              refine mv_if_eqZ (tgt := 135) (a := v1985.toInt) d_TrustDeskModel_readClause_124 (by decide) rfl (fun b2023 => ?_) (fun b2023 => absurd b2023 (by omega))
              refine mv_aload_n d_TrustDeskModel_readClause_135 rfl rfl ?_
              obtain ⟨a2025, q2024, t_a2025⟩ := tm_atR I2004 t2014 (k := 8) rfl
              refine tr_getK q2024 d_TrustDeskModel_readClause_136 f_TrustDeskModel_29_13 ?_
              refine mv_iload_n d_TrustDeskModel_readClause_139 rfl rfl ?_
              refine mv_aload_n d_TrustDeskModel_readClause_140 rfl rfl ?_
              refine mv_iconst (v := 1) d_TrustDeskModel_readClause_141 (by decide) ?_
              refine mv_bipush (v := 7) d_TrustDeskModel_readClause_142 (by decide) ?_
              obtain ⟨_, b2032, -⟩ := I2004.1 _ _ t2014
              have : (1 : Int32).toInt = 1 := by decide
              have : (7 : Int32).toInt = 7 := by decide
              refine mv_callV (kc' := 0) (ks' := 0) (As := [.int 1, .int 7]) (st9 := [.int 7, .int 1, .ref o0, .int v2006, .ref a2025]) d_TrustDeskModel_readClause_144 lV_TrustDeskModel_317 b2032 rfl (tc_TrustDeskModel_number_x (d := (d + 23)) (x9 := x9) (o0 := o0) (x1 := 1) (x2 := 7) t2014 R2007 E2015.1 (by have := R2007.1 15 _ _ rfl; have := R2007.1 16 _ _ rfl; have := R2007.1 19 _ _ rfl; have := E2015.f yS; omega) I2004.start) rfl (Nat.le_of_ble_eq_true rfl) (Nat.le_of_ble_eq_true rfl) (Nat.le_of_ble_eq_true rfl) (hst := rfl) (fun b2026r M2027 n2028 b2026 => ?_)
              obtain ⟨T2029, J2030, v2033, rfl, R2034, f2035, f2036⟩ := b2026
              have I2031 := I2004.call J2030 (tm_sub (by decide)) (Or.inl rfl)
              have t2037 := J2030.up t2014
              have t2038 := J2030.up t_a2025
              have := (rv_c I2004 J2030 (I2004.up h_o0) (k := 22) rfl)
              have := (rv_c I2004 J2030 (I2004.up h_o0) (k := 24) rfl)
              have := ra_call I2004 J2030 (I2004.up h_o0) (k := 5) rfl rfl rfl 44
              have := ra_call I2004 J2030 (I2004.up h_o0) (k := 6) rfl rfl rfl 44
              have E2039 : rE M0 M2027 o0 0 2 := E2015.trans f2035 (by decide) (yR.2 5 _ _ rfl 44).1 (by decide) (by decide)
              have := f2035.w
              have := f2035.w2
              have := ra_call I2004 J2030 (I2004.up h_o0) (k := 7) rfl rfl rfl ((880 + ra M0 o0 6 44).toNat)
              have := ra_call I2004 J2030 (I2004.up h_o0) (k := 10) rfl rfl rfl ((880 + ra M0 o0 6 44).toNat)
              have K2040 : rK M0 M2027 o0 ((880 + ra M0 o0 6 44).toNat) := K2017.same (sA_c I2004 J2030 (I2004.up h_o0) (by decide))
              have K2041 : nN M2027 o0 := K2018.same (sA_c I2004 J2030 (I2004.up h_o0) (by decide)) (sF_c I2004 J2030 (I2004.up h_o0) (by decide))
              have q2042 := J2030.keep t2014 (by decide) q2019
              have t2043 := J2030.up t2020
              have q2044 := J2030.keep t2014 (by decide) q2024
              refine tr_iastR (k := 8) I2031 R2034 (I2031.up h_o0) q2044 t2038 (by decide) (by decide) (fun lo hi h => by cases h; have := R2034.1 15 _ _ rfl; have := R2034.1 16 _ _ rfl; have := R2034.1 19 _ _ rfl; have := E2039.f yS; exact ⟨by show ((-1) : Int) ≤ v2033.toInt; omega, by show v2033.toInt ≤ (720 : Int); omega⟩) (Or.inl (by decide)) d_TrustDeskModel_readClause_147 (vp_in_iff.mpr (by have := R2034.1 15 _ _ rfl; have := R2034.1 16 _ _ rfl; have := R2034.1 19 _ _ rfl; have := E2039.f yS; omega)) (fun M2045 I2046 K2047 R2048 E2049 A2050 V2051 => ?_)
              have := V2051 15
              have := V2051 16
              have := V2051 17
              have := V2051 19
              have := V2051 22
              have := V2051 24
              have := A2050 5 (by decide) rfl 44
              have := A2050 6 (by decide) rfl 44
              have E2052 : rE M0 M2045 o0 0 2 := E2039.same (fun k _ _ => V2051 k) (fun k h1 h2 => A2050 k (by omega) (by rcases (show k = 4 ∨ k = 5 by omega) with rfl | rfl <;> rfl))
              have := A2050 7 (by decide) rfl ((880 + ra M0 o0 6 44).toNat)
              have := A2050 10 (by decide) rfl ((880 + ra M0 o0 6 44).toNat)
              have h2053 : (880 + ra M0 o0 6 44).toNat = v2006.toNatClampNeg := by have := mz_nat9 (i := v2006) (by have := R2034.1 15 _ _ rfl; have := R2034.1 16 _ _ rfl; have := R2034.1 19 _ _ rfl; have := E2039.f yS; omega); have := R2034.1 15 _ _ rfl; have := R2034.1 16 _ _ rfl; have := R2034.1 19 _ _ rfl; have := E2039.f yS; omega
              have : ra M2045 o0 8 ((880 + ra M0 o0 6 44).toNat) = v2033.toInt := (E2049 _).trans (if_pos h2053)
              have K2054 : rK M0 M2045 o0 ((880 + ra M0 o0 6 44).toNat) := K2040.st A2050 E2049 (by have := mz_nat9 (i := v2006) (by have := R2034.1 15 _ _ rfl; have := R2034.1 16 _ _ rfl; have := R2034.1 19 _ _ rfl; have := E2039.f yS; omega); have := R2034.1 15 _ _ rfl; have := R2034.1 16 _ _ rfl; have := R2034.1 19 _ _ rfl; have := E2039.f yS; omega)
              have K2055 : nN M2045 o0 := K2041.same (sA_a A2050 (by decide)) (sF_a V2051)
              refine mv_aload_n d_TrustDeskModel_readClause_148 rfl rfl ?_
              obtain ⟨a2057, q2056, t_a2057⟩ := tm_atR I2046 t2037 (k := 9) rfl
              refine tr_getK q2056 d_TrustDeskModel_readClause_149 f_TrustDeskModel_32_13 ?_
              refine mv_iload_n d_TrustDeskModel_readClause_152 rfl rfl ?_
              refine mv_aload_n d_TrustDeskModel_readClause_153 rfl rfl ?_
              refine mv_iconst (v := 1) d_TrustDeskModel_readClause_154 (by decide) ?_
              refine mv_aload_n d_TrustDeskModel_readClause_155 rfl rfl ?_
              refine tr_getK (k := 8) (K2047 _ 13 8 _ q2044) d_TrustDeskModel_readClause_156 f_TrustDeskModel_29_13 ?_
              refine mv_iload_n d_TrustDeskModel_readClause_159 rfl rfl ?_
              refine tr_ialdR (o := o0) (k := 8) I2046 (K2047 _ 13 8 _ q2044) t2038 (by decide) d_TrustDeskModel_readClause_160 (vp_in_iff.mpr (by have := R2048.1 15 _ _ rfl; have := R2048.1 16 _ _ rfl; have := R2048.1 19 _ _ rfl; have := E2052.f yS; omega)) (fun v2058 e2059 => ?_)
              have := R2048.a (k := 8) rfl (v2006 : Int32).toNatClampNeg
              have h2060 : (880 + ra M0 o0 6 44).toNat = v2006.toNatClampNeg := by have := mz_nat9 (i := v2006) (by have := R2048.1 15 _ _ rfl; have := R2048.1 16 _ _ rfl; have := R2048.1 19 _ _ rfl; have := E2052.f yS; omega); have := R2048.1 15 _ _ rfl; have := R2048.1 16 _ _ rfl; have := R2048.1 19 _ _ rfl; have := E2052.f yS; omega
              have : v2058.toInt = ra M2045 o0 8 ((880 + ra M0 o0 6 44).toNat) := by rw [e2059, h2060]
              obtain ⟨_, b2067, -⟩ := I2046.1 _ _ t2037
              have : (1 : Int32).toInt = 1 := by decide
              refine mv_callV (kc' := 0) (ks' := 0) (As := [.int 1, .int v2058]) (st9 := [.int v2058, .int 1, .ref o0, .int v2006, .ref a2057]) d_TrustDeskModel_readClause_161 lV_TrustDeskModel_317 b2067 rfl (tc_TrustDeskModel_number_x (d := (d + 23)) (x9 := x9) (o0 := o0) (x1 := 1) (x2 := v2058) t2037 R2048 E2052.1 (by have := R2048.1 15 _ _ rfl; have := R2048.1 16 _ _ rfl; have := R2048.1 19 _ _ rfl; have := E2052.f yS; omega) I2046.start) rfl (Nat.le_of_ble_eq_true rfl) (Nat.le_of_ble_eq_true rfl) (Nat.le_of_ble_eq_true rfl) (hst := rfl) (fun b2061r M2062 n2063 b2061 => ?_)
              obtain ⟨T2064, J2065, v2068, rfl, R2069, f2070, f2071⟩ := b2061
              have I2066 := I2046.call J2065 (tm_sub (by decide)) (Or.inl rfl)
              have t2072 := J2065.up t2037
              have t2073 := J2065.up t_a2057
              have := (rv_c I2046 J2065 (I2046.up h_o0) (k := 22) rfl)
              have := (rv_c I2046 J2065 (I2046.up h_o0) (k := 24) rfl)
              have := ra_call I2046 J2065 (I2046.up h_o0) (k := 5) rfl rfl rfl 44
              have := ra_call I2046 J2065 (I2046.up h_o0) (k := 6) rfl rfl rfl 44
              have E2074 : rE M0 M2062 o0 0 3 := E2052.trans f2070 (by decide) (yR.2 5 _ _ rfl 44).1 (by decide) (by decide)
              have := f2070.w
              have := f2070.w2
              have := ra_call I2046 J2065 (I2046.up h_o0) (k := 7) rfl rfl rfl ((880 + ra M0 o0 6 44).toNat)
              have := ra_call I2046 J2065 (I2046.up h_o0) (k := 10) rfl rfl rfl ((880 + ra M0 o0 6 44).toNat)
              have := ra_call I2046 J2065 (I2046.up h_o0) (k := 8) rfl rfl rfl ((880 + ra M0 o0 6 44).toNat)
              have K2075 : rK M0 M2062 o0 ((880 + ra M0 o0 6 44).toNat) := K2054.same (sA_c I2046 J2065 (I2046.up h_o0) (by decide))
              have K2076 : nN M2062 o0 := K2055.same (sA_c I2046 J2065 (I2046.up h_o0) (by decide)) (sF_c I2046 J2065 (I2046.up h_o0) (by decide))
              have q2077 := J2065.keep t2037 (by decide) (K2047 _ 13 6 _ q2042)
              have t2078 := J2065.up t2043
              have q2079 := J2065.keep t2037 (by decide) (K2047 _ 13 8 _ q2044)
              have t2080 := J2065.up t2038
              have q2081 := J2065.keep t2037 (by decide) q2056
              refine tr_iastR (k := 9) I2066 R2069 (I2066.up h_o0) q2081 t2073 (by decide) (by decide) (fun lo hi h => by cases h) (Or.inl (by decide)) d_TrustDeskModel_readClause_164 (vp_in_iff.mpr (by have := R2069.1 15 _ _ rfl; have := R2069.1 16 _ _ rfl; have := R2069.1 19 _ _ rfl; have := E2074.f yS; omega)) (fun M2082 I2083 K2084 R2085 E2086 A2087 V2088 => ?_)
              have := V2088 15
              have := V2088 16
              have := V2088 17
              have := V2088 19
              have := V2088 22
              have := V2088 24
              have := A2087 5 (by decide) rfl 44
              have := A2087 6 (by decide) rfl 44
              have E2089 : rE M0 M2082 o0 0 3 := E2074.same (fun k _ _ => V2088 k) (fun k h1 h2 => A2087 k (by omega) (by rcases (show k = 4 ∨ k = 5 by omega) with rfl | rfl <;> rfl))
              have := A2087 7 (by decide) rfl ((880 + ra M0 o0 6 44).toNat)
              have := A2087 10 (by decide) rfl ((880 + ra M0 o0 6 44).toNat)
              have := A2087 8 (by decide) rfl ((880 + ra M0 o0 6 44).toNat)
              have K2090 : rK M0 M2082 o0 ((880 + ra M0 o0 6 44).toNat) := K2075.same (sA_a A2087 (by decide))
              have K2091 : nN M2082 o0 := K2076.same (sA_a A2087 (by decide)) (sF_a V2088)
              refine mv_aload_n d_TrustDeskModel_readClause_165 rfl rfl ?_
              refine mv_bipush (v := 59) d_TrustDeskModel_readClause_166 (by decide) ?_
              obtain ⟨_, b2098, -⟩ := I2083.1 _ _ t2072
              have : (59 : Int32).toInt = 59 := by decide
              refine mv_callV (kc' := 0) (ks' := 0) (As := [.int 59]) (st9 := [.int 59, .ref o0]) d_TrustDeskModel_readClause_168 lV_TrustDeskModel_291 b2098 rfl (tc_TrustDeskModel_wantSign_x (d := (d + 23)) (x9 := x9) (o0 := o0) (x1 := 59) t2072 R2085 E2089.1 (by have := R2085.1 15 _ _ rfl; have := R2085.1 16 _ _ rfl; have := R2085.1 19 _ _ rfl; have := E2089.f yS; omega) I2083.start) rfl (Nat.le_of_ble_eq_true rfl) (Nat.le_of_ble_eq_true rfl) (Nat.le_of_ble_eq_true rfl) (hst := rfl) (fun b2092r M2093 n2094 b2092 => ?_)
              obtain ⟨T2095, J2096, rfl, R2099, f2100⟩ := b2092
              have I2097 := I2083.call J2096 (tm_sub (by decide)) (Or.inl rfl)
              have t2101 := J2096.up t2072
              have := (rv_c I2083 J2096 (I2083.up h_o0) (k := 22) rfl)
              have := (rv_c I2083 J2096 (I2083.up h_o0) (k := 24) rfl)
              have := ra_call I2083 J2096 (I2083.up h_o0) (k := 5) rfl rfl rfl 44
              have := ra_call I2083 J2096 (I2083.up h_o0) (k := 6) rfl rfl rfl 44
              have E2102 : rE M0 M2093 o0 0 4 := E2089.trans f2100 (by decide) (yR.2 5 _ _ rfl 44).1 (by decide) (by decide)
              have := f2100.w
              have := f2100.w2
              have := ra_call I2083 J2096 (I2083.up h_o0) (k := 7) rfl rfl rfl ((880 + ra M0 o0 6 44).toNat)
              have := ra_call I2083 J2096 (I2083.up h_o0) (k := 10) rfl rfl rfl ((880 + ra M0 o0 6 44).toNat)
              have := ra_call I2083 J2096 (I2083.up h_o0) (k := 8) rfl rfl rfl ((880 + ra M0 o0 6 44).toNat)
              have K2103 : rK M0 M2093 o0 ((880 + ra M0 o0 6 44).toNat) := K2090.same (sA_c I2083 J2096 (I2083.up h_o0) (by decide))
              have K2104 : nN M2093 o0 := K2091.same (sA_c I2083 J2096 (I2083.up h_o0) (by decide)) (sF_c I2083 J2096 (I2083.up h_o0) (by decide))
              have q2105 := J2096.keep t2072 (by decide) (K2084 _ 13 6 _ q2077)
              have t2106 := J2096.up t2078
              have q2107 := J2096.keep t2072 (by decide) (K2084 _ 13 8 _ q2079)
              have t2108 := J2096.up t2080
              have q2109 := J2096.keep t2072 (by decide) (K2084 _ 13 9 _ q2081)
              have t2110 := J2096.up t2073
              refine mv_aload_n d_TrustDeskModel_readClause_171 rfl rfl ?_
              obtain ⟨a2112, q2111, t_a2112⟩ := tm_atR I2097 t2101 (k := 12) rfl
              refine tr_getK q2111 d_TrustDeskModel_readClause_172 f_TrustDeskModel_41_13 ?_
              refine mv_iload_n d_TrustDeskModel_readClause_175 rfl rfl ?_
              refine mv_aload_n d_TrustDeskModel_readClause_176 rfl rfl ?_
              obtain ⟨a2114, q2113, t_a2114⟩ := tm_atR I2097 t2101 (k := 5) rfl
              refine tr_getK q2113 d_TrustDeskModel_readClause_177 f_TrustDeskModel_20_13 ?_
              refine mv_bipush (v := 44) d_TrustDeskModel_readClause_180 (by decide) ?_
              refine tr_ialdR (o := o0) (k := 5) I2097 q2113 t_a2114 (by decide) d_TrustDeskModel_readClause_182 (by unfold vp_in; decide) (fun v2115 e2116 => ?_)
              have := R2099.a (k := 5) rfl (44 : Int32).toNatClampNeg
              have : v2115.toInt = ra M2093 o0 5 44 := e2116
              refine tr_iastR (k := 12) I2097 R2099 (I2097.up h_o0) q2111 t_a2112 (by decide) (by decide) (fun lo hi h => by cases h; have := R2099.1 15 _ _ rfl; have := R2099.1 16 _ _ rfl; have := R2099.1 19 _ _ rfl; have := E2102.f yS; exact ⟨by show (0 : Int) ≤ v2115.toInt; omega, by show v2115.toInt ≤ (400 : Int); omega⟩) (Or.inl (by decide)) d_TrustDeskModel_readClause_183 (vp_in_iff.mpr (by have := R2099.1 15 _ _ rfl; have := R2099.1 16 _ _ rfl; have := R2099.1 19 _ _ rfl; have := E2102.f yS; omega)) (fun M2117 I2118 K2119 R2120 E2121 A2122 V2123 => ?_)
              have := V2123 15
              have := V2123 16
              have := V2123 17
              have := V2123 19
              have := V2123 22
              have := V2123 24
              have := A2122 5 (by decide) rfl 44
              have := A2122 6 (by decide) rfl 44
              have E2124 : rE M0 M2117 o0 0 4 := E2102.same (fun k _ _ => V2123 k) (fun k h1 h2 => A2122 k (by omega) (by rcases (show k = 4 ∨ k = 5 by omega) with rfl | rfl <;> rfl))
              have := A2122 7 (by decide) rfl ((880 + ra M0 o0 6 44).toNat)
              have := A2122 10 (by decide) rfl ((880 + ra M0 o0 6 44).toNat)
              have := A2122 8 (by decide) rfl ((880 + ra M0 o0 6 44).toNat)
              have h2125 : (880 + ra M0 o0 6 44).toNat = v2006.toNatClampNeg := by have := mz_nat9 (i := v2006) (by have := R2099.1 15 _ _ rfl; have := R2099.1 16 _ _ rfl; have := R2099.1 19 _ _ rfl; have := E2102.f yS; omega); have := R2099.1 15 _ _ rfl; have := R2099.1 16 _ _ rfl; have := R2099.1 19 _ _ rfl; have := E2102.f yS; omega
              have : ra M2117 o0 12 ((880 + ra M0 o0 6 44).toNat) = v2115.toInt := (E2121 _).trans (if_pos h2125)
              have K2126 : rK M0 M2117 o0 ((880 + ra M0 o0 6 44).toNat) := K2103.st A2122 E2121 (by have := mz_nat9 (i := v2006) (by have := R2099.1 15 _ _ rfl; have := R2099.1 16 _ _ rfl; have := R2099.1 19 _ _ rfl; have := E2102.f yS; omega); have := R2099.1 15 _ _ rfl; have := R2099.1 16 _ _ rfl; have := R2099.1 19 _ _ rfl; have := E2102.f yS; omega)
              have K2127 : nN M2117 o0 := K2104.same (sA_a A2122 (by decide)) (sF_a V2123)
              exact mv_vret d_TrustDeskModel_readClause_184 rfl ⟨_, I2118, rfl, R2120, (rW.of E2124.1 (fun w9 => (by have := R2120.1 15 _ _ rfl; have := R2120.1 16 _ _ rfl; have := R2120.1 19 _ _ rfl; have := E2124.f yS; omega)) (fun w9 => rG.step yG yR E2124 w9 K2126 (by have := yR.2 6 _ _ rfl 44; omega) (by have := R2120.1 15 _ _ rfl; have := R2120.1 16 _ _ rfl; have := R2120.1 19 _ _ rfl; have := E2124.f yS; omega) (by have := R2120.1 15 _ _ rfl; have := R2120.1 16 _ _ rfl; have := R2120.1 19 _ _ rfl; have := E2124.f yS; omega) (fun h9 => by exfalso; have := R2120.1 15 _ _ rfl; have := R2120.1 16 _ _ rfl; have := R2120.1 19 _ _ rfl; have := E2124.f yS; omega) (fun h9 => (by have := R2120.1 15 _ _ rfl; have := R2120.1 16 _ _ rfl; have := R2120.1 19 _ _ rfl; have := E2124.f yS; omega)) (by have := R2120.1 15 _ _ rfl; have := R2120.1 16 _ _ rfl; have := R2120.1 19 _ _ rfl; have := E2124.f yS; omega) K2127)), (rO.of E2124 K2126 (by have := yR.2 6 _ _ rfl 44; omega)), (by have := R2120.1 15 _ _ rfl; have := R2120.1 16 _ _ rfl; have := R2120.1 19 _ _ rfl; have := E2124.f yS; omega), (by have := R2120.1 15 _ _ rfl; have := R2120.1 16 _ _ rfl; have := R2120.1 19 _ _ rfl; have := E2124.f yS; omega), (fun h9 _ => absurd h9 (f16 (by have := R2120.1 15 _ _ rfl; have := R2120.1 16 _ _ rfl; have := R2120.1 19 _ _ rfl; have := E2124.f yS; omega)))⟩
            · refine mv_bipush (v := 7) d_TrustDeskModel_readClause_100 (by decide) ?_
              refine mv_goto (tgt := 107) d_TrustDeskModel_readClause_102 (by decide) ?_
              obtain ⟨_, b2134, -⟩ := I1983.1 _ _ t1990
              have : (7 : Int32).toInt = 7 := by decide
              refine mv_callV (kc' := 0) (ks' := 0) (As := [.int 7]) (st9 := [.int 7, .ref o0]) d_TrustDeskModel_readClause_107 lV_TrustDeskModel_342 b2134 rfl (tc_TrustDeskModel_begin_x (d := (d + 23)) (x9 := x9) (o0 := o0) (x1 := 7) t1990 R1988 E1991.1 (by have := R1988.1 15 _ _ rfl; have := R1988.1 16 _ _ rfl; have := R1988.1 19 _ _ rfl; have := E1991.f yS; omega) (by have := R1988.1 15 _ _ rfl; have := R1988.1 16 _ _ rfl; have := R1988.1 19 _ _ rfl; have := E1991.f yS; omega) (by have := R1988.1 15 _ _ rfl; have := R1988.1 16 _ _ rfl; have := R1988.1 19 _ _ rfl; have := E1991.f yS; omega) (by have := R1988.1 15 _ _ rfl; have := R1988.1 16 _ _ rfl; have := R1988.1 19 _ _ rfl; have := E1991.f yS; omega) I1983.start) rfl (Nat.le_of_ble_eq_true rfl) (Nat.le_of_ble_eq_true rfl) (Nat.le_of_ble_eq_true rfl) (hst := rfl) (fun b2128r M2129 n2130 b2128 => ?_)
              obtain ⟨T2131, J2132, v2135, rfl, R2136, f2137, f2138, f2139, f2140, f2141, f2142⟩ := b2128
              have I2133 := I1983.call J2132 (tm_sub (by decide)) (Or.inl rfl)
              have t2143 := J2132.up t1990
              have := (rv_c I1983 J2132 (I1983.up h_o0) (k := 19) rfl)
              have := (rv_c I1983 J2132 (I1983.up h_o0) (k := 22) rfl)
              have := (rv_c I1983 J2132 (I1983.up h_o0) (k := 24) rfl)
              have := ra_call I1983 J2132 (I1983.up h_o0) (k := 5) rfl rfl rfl 44
              have E2144 : rE M0 M2129 o0 0 1 := E1991.trans f2137 (by decide) (yR.2 5 _ _ rfl 44).1 (by decide) (by decide)
              have := f2137.w
              have := f2137.w2
              have h2145 : (880 + ra M1979 o0 6 44).toNat = (880 + ra M0 o0 6 44).toNat := by omega
              rw [h2145] at f2140 f2141 f2142
              have K2146 : rK M0 M2129 o0 ((880 + ra M0 o0 6 44).toNat) := K1992.trans f2142
              have K2147 : nN M2129 o0 := K1993.same (sA_c I1983 J2132 (I1983.up h_o0) (by decide)) (sF_c I1983 J2132 (I1983.up h_o0) (by decide))
              have q2148 := J2132.keep t1990 (by decide) q1994
              have t2149 := J2132.up t1995
              have q2150 := J2132.keep t1990 (by decide) q1996
              refine mv_istore_n (lv' := [(3, .int v2135), (2, .int v1985), (1, .int v10), (0, .ref o0)]) d_TrustDeskModel_readClause_110 rfl (by decide) rfl ?_
              refine mv_iload_n d_TrustDeskModel_readClause_111 rfl rfl ?_
              have := mz_hi v10
              refine mv_if_eqZ (tgt := 123) (a := v10.toInt) d_TrustDeskModel_readClause_112 (by decide) rfl (fun b2151 => ?_) (fun b2151 => absurd b2151 (by omega))
              refine mv_iload_n d_TrustDeskModel_readClause_123 rfl rfl ?_
              have := mz_hi v1985
              refine mv_if_eqZ (tgt := 135) (a := v1985.toInt) d_TrustDeskModel_readClause_124 (by decide) rfl (fun b2152 => ?_) (fun b2152 => ?_)
              · refine mv_aload_n d_TrustDeskModel_readClause_135 rfl rfl ?_
                obtain ⟨a2154, q2153, t_a2154⟩ := tm_atR I2133 t2143 (k := 8) rfl
                refine tr_getK q2153 d_TrustDeskModel_readClause_136 f_TrustDeskModel_29_13 ?_
                refine mv_iload_n d_TrustDeskModel_readClause_139 rfl rfl ?_
                refine mv_aload_n d_TrustDeskModel_readClause_140 rfl rfl ?_
                refine mv_iconst (v := 1) d_TrustDeskModel_readClause_141 (by decide) ?_
                refine mv_bipush (v := 7) d_TrustDeskModel_readClause_142 (by decide) ?_
                obtain ⟨_, b2161, -⟩ := I2133.1 _ _ t2143
                have : (1 : Int32).toInt = 1 := by decide
                have : (7 : Int32).toInt = 7 := by decide
                refine mv_callV (kc' := 0) (ks' := 0) (As := [.int 1, .int 7]) (st9 := [.int 7, .int 1, .ref o0, .int v2135, .ref a2154]) d_TrustDeskModel_readClause_144 lV_TrustDeskModel_317 b2161 rfl (tc_TrustDeskModel_number_x (d := (d + 23)) (x9 := x9) (o0 := o0) (x1 := 1) (x2 := 7) t2143 R2136 E2144.1 (by have := R2136.1 15 _ _ rfl; have := R2136.1 16 _ _ rfl; have := R2136.1 19 _ _ rfl; have := E2144.f yS; omega) I2133.start) rfl (Nat.le_of_ble_eq_true rfl) (Nat.le_of_ble_eq_true rfl) (Nat.le_of_ble_eq_true rfl) (hst := rfl) (fun b2155r M2156 n2157 b2155 => ?_)
                obtain ⟨T2158, J2159, v2162, rfl, R2163, f2164, f2165⟩ := b2155
                have I2160 := I2133.call J2159 (tm_sub (by decide)) (Or.inl rfl)
                have t2166 := J2159.up t2143
                have t2167 := J2159.up t_a2154
                have := (rv_c I2133 J2159 (I2133.up h_o0) (k := 22) rfl)
                have := (rv_c I2133 J2159 (I2133.up h_o0) (k := 24) rfl)
                have := ra_call I2133 J2159 (I2133.up h_o0) (k := 5) rfl rfl rfl 44
                have := ra_call I2133 J2159 (I2133.up h_o0) (k := 6) rfl rfl rfl 44
                have E2168 : rE M0 M2156 o0 0 2 := E2144.trans f2164 (by decide) (yR.2 5 _ _ rfl 44).1 (by decide) (by decide)
                have := f2164.w
                have := f2164.w2
                have := ra_call I2133 J2159 (I2133.up h_o0) (k := 7) rfl rfl rfl ((880 + ra M0 o0 6 44).toNat)
                have := ra_call I2133 J2159 (I2133.up h_o0) (k := 10) rfl rfl rfl ((880 + ra M0 o0 6 44).toNat)
                have K2169 : rK M0 M2156 o0 ((880 + ra M0 o0 6 44).toNat) := K2146.same (sA_c I2133 J2159 (I2133.up h_o0) (by decide))
                have K2170 : nN M2156 o0 := K2147.same (sA_c I2133 J2159 (I2133.up h_o0) (by decide)) (sF_c I2133 J2159 (I2133.up h_o0) (by decide))
                have q2171 := J2159.keep t2143 (by decide) q2148
                have t2172 := J2159.up t2149
                have q2173 := J2159.keep t2143 (by decide) q2153
                refine tr_iastR (k := 8) I2160 R2163 (I2160.up h_o0) q2173 t2167 (by decide) (by decide) (fun lo hi h => by cases h; have := R2163.1 15 _ _ rfl; have := R2163.1 16 _ _ rfl; have := R2163.1 19 _ _ rfl; have := E2168.f yS; exact ⟨by show ((-1) : Int) ≤ v2162.toInt; omega, by show v2162.toInt ≤ (720 : Int); omega⟩) (Or.inl (by decide)) d_TrustDeskModel_readClause_147 (vp_in_iff.mpr (by have := R2163.1 15 _ _ rfl; have := R2163.1 16 _ _ rfl; have := R2163.1 19 _ _ rfl; have := E2168.f yS; omega)) (fun M2174 I2175 K2176 R2177 E2178 A2179 V2180 => ?_)
                have := V2180 15
                have := V2180 16
                have := V2180 17
                have := V2180 19
                have := V2180 22
                have := V2180 24
                have := A2179 5 (by decide) rfl 44
                have := A2179 6 (by decide) rfl 44
                have E2181 : rE M0 M2174 o0 0 2 := E2168.same (fun k _ _ => V2180 k) (fun k h1 h2 => A2179 k (by omega) (by rcases (show k = 4 ∨ k = 5 by omega) with rfl | rfl <;> rfl))
                have := A2179 7 (by decide) rfl ((880 + ra M0 o0 6 44).toNat)
                have := A2179 10 (by decide) rfl ((880 + ra M0 o0 6 44).toNat)
                have h2182 : (880 + ra M0 o0 6 44).toNat = v2135.toNatClampNeg := by have := mz_nat9 (i := v2135) (by have := R2163.1 15 _ _ rfl; have := R2163.1 16 _ _ rfl; have := R2163.1 19 _ _ rfl; have := E2168.f yS; omega); have := R2163.1 15 _ _ rfl; have := R2163.1 16 _ _ rfl; have := R2163.1 19 _ _ rfl; have := E2168.f yS; omega
                have : ra M2174 o0 8 ((880 + ra M0 o0 6 44).toNat) = v2162.toInt := (E2178 _).trans (if_pos h2182)
                have K2183 : rK M0 M2174 o0 ((880 + ra M0 o0 6 44).toNat) := K2169.st A2179 E2178 (by have := mz_nat9 (i := v2135) (by have := R2163.1 15 _ _ rfl; have := R2163.1 16 _ _ rfl; have := R2163.1 19 _ _ rfl; have := E2168.f yS; omega); have := R2163.1 15 _ _ rfl; have := R2163.1 16 _ _ rfl; have := R2163.1 19 _ _ rfl; have := E2168.f yS; omega)
                have K2184 : nN M2174 o0 := K2170.same (sA_a A2179 (by decide)) (sF_a V2180)
                refine mv_aload_n d_TrustDeskModel_readClause_148 rfl rfl ?_
                obtain ⟨a2186, q2185, t_a2186⟩ := tm_atR I2175 t2166 (k := 9) rfl
                refine tr_getK q2185 d_TrustDeskModel_readClause_149 f_TrustDeskModel_32_13 ?_
                refine mv_iload_n d_TrustDeskModel_readClause_152 rfl rfl ?_
                refine mv_aload_n d_TrustDeskModel_readClause_153 rfl rfl ?_
                refine mv_iconst (v := 1) d_TrustDeskModel_readClause_154 (by decide) ?_
                refine mv_aload_n d_TrustDeskModel_readClause_155 rfl rfl ?_
                refine tr_getK (k := 8) (K2176 _ 13 8 _ q2173) d_TrustDeskModel_readClause_156 f_TrustDeskModel_29_13 ?_
                refine mv_iload_n d_TrustDeskModel_readClause_159 rfl rfl ?_
                refine tr_ialdR (o := o0) (k := 8) I2175 (K2176 _ 13 8 _ q2173) t2167 (by decide) d_TrustDeskModel_readClause_160 (vp_in_iff.mpr (by have := R2177.1 15 _ _ rfl; have := R2177.1 16 _ _ rfl; have := R2177.1 19 _ _ rfl; have := E2181.f yS; omega)) (fun v2187 e2188 => ?_)
                have := R2177.a (k := 8) rfl (v2135 : Int32).toNatClampNeg
                have h2189 : (880 + ra M0 o0 6 44).toNat = v2135.toNatClampNeg := by have := mz_nat9 (i := v2135) (by have := R2177.1 15 _ _ rfl; have := R2177.1 16 _ _ rfl; have := R2177.1 19 _ _ rfl; have := E2181.f yS; omega); have := R2177.1 15 _ _ rfl; have := R2177.1 16 _ _ rfl; have := R2177.1 19 _ _ rfl; have := E2181.f yS; omega
                have : v2187.toInt = ra M2174 o0 8 ((880 + ra M0 o0 6 44).toNat) := by rw [e2188, h2189]
                obtain ⟨_, b2196, -⟩ := I2175.1 _ _ t2166
                have : (1 : Int32).toInt = 1 := by decide
                refine mv_callV (kc' := 0) (ks' := 0) (As := [.int 1, .int v2187]) (st9 := [.int v2187, .int 1, .ref o0, .int v2135, .ref a2186]) d_TrustDeskModel_readClause_161 lV_TrustDeskModel_317 b2196 rfl (tc_TrustDeskModel_number_x (d := (d + 23)) (x9 := x9) (o0 := o0) (x1 := 1) (x2 := v2187) t2166 R2177 E2181.1 (by have := R2177.1 15 _ _ rfl; have := R2177.1 16 _ _ rfl; have := R2177.1 19 _ _ rfl; have := E2181.f yS; omega) I2175.start) rfl (Nat.le_of_ble_eq_true rfl) (Nat.le_of_ble_eq_true rfl) (Nat.le_of_ble_eq_true rfl) (hst := rfl) (fun b2190r M2191 n2192 b2190 => ?_)
                obtain ⟨T2193, J2194, v2197, rfl, R2198, f2199, f2200⟩ := b2190
                have I2195 := I2175.call J2194 (tm_sub (by decide)) (Or.inl rfl)
                have t2201 := J2194.up t2166
                have t2202 := J2194.up t_a2186
                have := (rv_c I2175 J2194 (I2175.up h_o0) (k := 22) rfl)
                have := (rv_c I2175 J2194 (I2175.up h_o0) (k := 24) rfl)
                have := ra_call I2175 J2194 (I2175.up h_o0) (k := 5) rfl rfl rfl 44
                have := ra_call I2175 J2194 (I2175.up h_o0) (k := 6) rfl rfl rfl 44
                have E2203 : rE M0 M2191 o0 0 3 := E2181.trans f2199 (by decide) (yR.2 5 _ _ rfl 44).1 (by decide) (by decide)
                have := f2199.w
                have := f2199.w2
                have := ra_call I2175 J2194 (I2175.up h_o0) (k := 7) rfl rfl rfl ((880 + ra M0 o0 6 44).toNat)
                have := ra_call I2175 J2194 (I2175.up h_o0) (k := 10) rfl rfl rfl ((880 + ra M0 o0 6 44).toNat)
                have := ra_call I2175 J2194 (I2175.up h_o0) (k := 8) rfl rfl rfl ((880 + ra M0 o0 6 44).toNat)
                have K2204 : rK M0 M2191 o0 ((880 + ra M0 o0 6 44).toNat) := K2183.same (sA_c I2175 J2194 (I2175.up h_o0) (by decide))
                have K2205 : nN M2191 o0 := K2184.same (sA_c I2175 J2194 (I2175.up h_o0) (by decide)) (sF_c I2175 J2194 (I2175.up h_o0) (by decide))
                have q2206 := J2194.keep t2166 (by decide) (K2176 _ 13 6 _ q2171)
                have t2207 := J2194.up t2172
                have q2208 := J2194.keep t2166 (by decide) (K2176 _ 13 8 _ q2173)
                have t2209 := J2194.up t2167
                have q2210 := J2194.keep t2166 (by decide) q2185
                refine tr_iastR (k := 9) I2195 R2198 (I2195.up h_o0) q2210 t2202 (by decide) (by decide) (fun lo hi h => by cases h) (Or.inl (by decide)) d_TrustDeskModel_readClause_164 (vp_in_iff.mpr (by have := R2198.1 15 _ _ rfl; have := R2198.1 16 _ _ rfl; have := R2198.1 19 _ _ rfl; have := E2203.f yS; omega)) (fun M2211 I2212 K2213 R2214 E2215 A2216 V2217 => ?_)
                have := V2217 15
                have := V2217 16
                have := V2217 17
                have := V2217 19
                have := V2217 22
                have := V2217 24
                have := A2216 5 (by decide) rfl 44
                have := A2216 6 (by decide) rfl 44
                have E2218 : rE M0 M2211 o0 0 3 := E2203.same (fun k _ _ => V2217 k) (fun k h1 h2 => A2216 k (by omega) (by rcases (show k = 4 ∨ k = 5 by omega) with rfl | rfl <;> rfl))
                have := A2216 7 (by decide) rfl ((880 + ra M0 o0 6 44).toNat)
                have := A2216 10 (by decide) rfl ((880 + ra M0 o0 6 44).toNat)
                have := A2216 8 (by decide) rfl ((880 + ra M0 o0 6 44).toNat)
                have K2219 : rK M0 M2211 o0 ((880 + ra M0 o0 6 44).toNat) := K2204.same (sA_a A2216 (by decide))
                have K2220 : nN M2211 o0 := K2205.same (sA_a A2216 (by decide)) (sF_a V2217)
                refine mv_aload_n d_TrustDeskModel_readClause_165 rfl rfl ?_
                refine mv_bipush (v := 59) d_TrustDeskModel_readClause_166 (by decide) ?_
                obtain ⟨_, b2227, -⟩ := I2212.1 _ _ t2201
                have : (59 : Int32).toInt = 59 := by decide
                refine mv_callV (kc' := 0) (ks' := 0) (As := [.int 59]) (st9 := [.int 59, .ref o0]) d_TrustDeskModel_readClause_168 lV_TrustDeskModel_291 b2227 rfl (tc_TrustDeskModel_wantSign_x (d := (d + 23)) (x9 := x9) (o0 := o0) (x1 := 59) t2201 R2214 E2218.1 (by have := R2214.1 15 _ _ rfl; have := R2214.1 16 _ _ rfl; have := R2214.1 19 _ _ rfl; have := E2218.f yS; omega) I2212.start) rfl (Nat.le_of_ble_eq_true rfl) (Nat.le_of_ble_eq_true rfl) (Nat.le_of_ble_eq_true rfl) (hst := rfl) (fun b2221r M2222 n2223 b2221 => ?_)
                obtain ⟨T2224, J2225, rfl, R2228, f2229⟩ := b2221
                have I2226 := I2212.call J2225 (tm_sub (by decide)) (Or.inl rfl)
                have t2230 := J2225.up t2201
                have := (rv_c I2212 J2225 (I2212.up h_o0) (k := 22) rfl)
                have := (rv_c I2212 J2225 (I2212.up h_o0) (k := 24) rfl)
                have := ra_call I2212 J2225 (I2212.up h_o0) (k := 5) rfl rfl rfl 44
                have := ra_call I2212 J2225 (I2212.up h_o0) (k := 6) rfl rfl rfl 44
                have E2231 : rE M0 M2222 o0 0 4 := E2218.trans f2229 (by decide) (yR.2 5 _ _ rfl 44).1 (by decide) (by decide)
                have := f2229.w
                have := f2229.w2
                have := ra_call I2212 J2225 (I2212.up h_o0) (k := 7) rfl rfl rfl ((880 + ra M0 o0 6 44).toNat)
                have := ra_call I2212 J2225 (I2212.up h_o0) (k := 10) rfl rfl rfl ((880 + ra M0 o0 6 44).toNat)
                have := ra_call I2212 J2225 (I2212.up h_o0) (k := 8) rfl rfl rfl ((880 + ra M0 o0 6 44).toNat)
                have K2232 : rK M0 M2222 o0 ((880 + ra M0 o0 6 44).toNat) := K2219.same (sA_c I2212 J2225 (I2212.up h_o0) (by decide))
                have K2233 : nN M2222 o0 := K2220.same (sA_c I2212 J2225 (I2212.up h_o0) (by decide)) (sF_c I2212 J2225 (I2212.up h_o0) (by decide))
                have q2234 := J2225.keep t2201 (by decide) (K2213 _ 13 6 _ q2206)
                have t2235 := J2225.up t2207
                have q2236 := J2225.keep t2201 (by decide) (K2213 _ 13 8 _ q2208)
                have t2237 := J2225.up t2209
                have q2238 := J2225.keep t2201 (by decide) (K2213 _ 13 9 _ q2210)
                have t2239 := J2225.up t2202
                refine mv_aload_n d_TrustDeskModel_readClause_171 rfl rfl ?_
                obtain ⟨a2241, q2240, t_a2241⟩ := tm_atR I2226 t2230 (k := 12) rfl
                refine tr_getK q2240 d_TrustDeskModel_readClause_172 f_TrustDeskModel_41_13 ?_
                refine mv_iload_n d_TrustDeskModel_readClause_175 rfl rfl ?_
                refine mv_aload_n d_TrustDeskModel_readClause_176 rfl rfl ?_
                obtain ⟨a2243, q2242, t_a2243⟩ := tm_atR I2226 t2230 (k := 5) rfl
                refine tr_getK q2242 d_TrustDeskModel_readClause_177 f_TrustDeskModel_20_13 ?_
                refine mv_bipush (v := 44) d_TrustDeskModel_readClause_180 (by decide) ?_
                refine tr_ialdR (o := o0) (k := 5) I2226 q2242 t_a2243 (by decide) d_TrustDeskModel_readClause_182 (by unfold vp_in; decide) (fun v2244 e2245 => ?_)
                have := R2228.a (k := 5) rfl (44 : Int32).toNatClampNeg
                have : v2244.toInt = ra M2222 o0 5 44 := e2245
                refine tr_iastR (k := 12) I2226 R2228 (I2226.up h_o0) q2240 t_a2241 (by decide) (by decide) (fun lo hi h => by cases h; have := R2228.1 15 _ _ rfl; have := R2228.1 16 _ _ rfl; have := R2228.1 19 _ _ rfl; have := E2231.f yS; exact ⟨by show (0 : Int) ≤ v2244.toInt; omega, by show v2244.toInt ≤ (400 : Int); omega⟩) (Or.inl (by decide)) d_TrustDeskModel_readClause_183 (vp_in_iff.mpr (by have := R2228.1 15 _ _ rfl; have := R2228.1 16 _ _ rfl; have := R2228.1 19 _ _ rfl; have := E2231.f yS; omega)) (fun M2246 I2247 K2248 R2249 E2250 A2251 V2252 => ?_)
                have := V2252 15
                have := V2252 16
                have := V2252 17
                have := V2252 19
                have := V2252 22
                have := V2252 24
                have := A2251 5 (by decide) rfl 44
                have := A2251 6 (by decide) rfl 44
                have E2253 : rE M0 M2246 o0 0 4 := E2231.same (fun k _ _ => V2252 k) (fun k h1 h2 => A2251 k (by omega) (by rcases (show k = 4 ∨ k = 5 by omega) with rfl | rfl <;> rfl))
                have := A2251 7 (by decide) rfl ((880 + ra M0 o0 6 44).toNat)
                have := A2251 10 (by decide) rfl ((880 + ra M0 o0 6 44).toNat)
                have := A2251 8 (by decide) rfl ((880 + ra M0 o0 6 44).toNat)
                have h2254 : (880 + ra M0 o0 6 44).toNat = v2135.toNatClampNeg := by have := mz_nat9 (i := v2135) (by have := R2228.1 15 _ _ rfl; have := R2228.1 16 _ _ rfl; have := R2228.1 19 _ _ rfl; have := E2231.f yS; omega); have := R2228.1 15 _ _ rfl; have := R2228.1 16 _ _ rfl; have := R2228.1 19 _ _ rfl; have := E2231.f yS; omega
                have : ra M2246 o0 12 ((880 + ra M0 o0 6 44).toNat) = v2244.toInt := (E2250 _).trans (if_pos h2254)
                have K2255 : rK M0 M2246 o0 ((880 + ra M0 o0 6 44).toNat) := K2232.st A2251 E2250 (by have := mz_nat9 (i := v2135) (by have := R2228.1 15 _ _ rfl; have := R2228.1 16 _ _ rfl; have := R2228.1 19 _ _ rfl; have := E2231.f yS; omega); have := R2228.1 15 _ _ rfl; have := R2228.1 16 _ _ rfl; have := R2228.1 19 _ _ rfl; have := E2231.f yS; omega)
                have K2256 : nN M2246 o0 := K2233.same (sA_a A2251 (by decide)) (sF_a V2252)
                exact mv_vret d_TrustDeskModel_readClause_184 rfl ⟨_, I2247, rfl, R2249, (rW.of E2253.1 (fun w9 => (by have := R2249.1 15 _ _ rfl; have := R2249.1 16 _ _ rfl; have := R2249.1 19 _ _ rfl; have := E2253.f yS; omega)) (fun w9 => rG.step yG yR E2253 w9 K2255 (by have := yR.2 6 _ _ rfl 44; omega) (by have := R2249.1 15 _ _ rfl; have := R2249.1 16 _ _ rfl; have := R2249.1 19 _ _ rfl; have := E2253.f yS; omega) (by have := R2249.1 15 _ _ rfl; have := R2249.1 16 _ _ rfl; have := R2249.1 19 _ _ rfl; have := E2253.f yS; omega) (fun h9 => by exfalso; have := R2249.1 15 _ _ rfl; have := R2249.1 16 _ _ rfl; have := R2249.1 19 _ _ rfl; have := E2253.f yS; omega) (fun h9 => (by have := R2249.1 15 _ _ rfl; have := R2249.1 16 _ _ rfl; have := R2249.1 19 _ _ rfl; have := E2253.f yS; omega)) (by have := R2249.1 15 _ _ rfl; have := R2249.1 16 _ _ rfl; have := R2249.1 19 _ _ rfl; have := E2253.f yS; omega) K2256)), (rO.of E2253 K2255 (by have := yR.2 6 _ _ rfl 44; omega)), (by have := R2249.1 15 _ _ rfl; have := R2249.1 16 _ _ rfl; have := R2249.1 19 _ _ rfl; have := E2253.f yS; omega), (by have := R2249.1 15 _ _ rfl; have := R2249.1 16 _ _ rfl; have := R2249.1 19 _ _ rfl; have := E2253.f yS; omega), (fun h9 _ => absurd h9 (f16 (by have := R2249.1 15 _ _ rfl; have := R2249.1 16 _ _ rfl; have := R2249.1 19 _ _ rfl; have := E2253.f yS; omega)))⟩
              · refine mv_aload_n d_TrustDeskModel_readClause_127 rfl rfl ?_
                refine mv_iload_n d_TrustDeskModel_readClause_128 rfl rfl ?_
                obtain ⟨_, b2263, -⟩ := I2133.1 _ _ t2143
                refine mv_callV (kc' := 0) (ks' := 0) (As := [.int v2135]) (st9 := [.int v2135, .ref o0]) d_TrustDeskModel_readClause_129 lV_TrustDeskModel_348 b2263 rfl (tc_TrustDeskModel_readMarks_x (d := (d + 22)) (x9 := x9) (o0 := o0) (x1 := v2135) t2143 R2136 E2144.1 (by have := R2136.1 15 _ _ rfl; have := R2136.1 16 _ _ rfl; have := R2136.1 19 _ _ rfl; have := E2144.f yS; omega) (by have := R2136.1 15 _ _ rfl; have := R2136.1 16 _ _ rfl; have := R2136.1 19 _ _ rfl; have := E2144.f yS; omega) I2133.start) rfl (Nat.le_of_ble_eq_true rfl) (Nat.le_of_ble_eq_true rfl) (Nat.le_of_ble_eq_true rfl) (hst := rfl) (fun b2257r M2258 n2259 b2257 => ?_)
                obtain ⟨T2260, J2261, rfl, R2264, f2265, f2266, f2267⟩ := b2257
                have I2262 := I2133.call J2261 (tm_sub (by decide)) (Or.inl rfl)
                have t2268 := J2261.up t2143
                have := (rv_c I2133 J2261 (I2133.up h_o0) (k := 22) rfl)
                have := (rv_c I2133 J2261 (I2133.up h_o0) (k := 24) rfl)
                have := ra_call I2133 J2261 (I2133.up h_o0) (k := 5) rfl rfl rfl 44
                have := ra_call I2133 J2261 (I2133.up h_o0) (k := 6) rfl rfl rfl 44
                have E2269 : rE M0 M2258 o0 0 1 := E2144.trans f2265 (by decide) (yR.2 5 _ _ rfl 44).1 (by decide) (by decide)
                have := f2265.w
                have := f2265.w2
                have := ra_call I2133 J2261 (I2133.up h_o0) (k := 7) rfl rfl rfl ((880 + ra M0 o0 6 44).toNat)
                have := ra_call I2133 J2261 (I2133.up h_o0) (k := 10) rfl rfl rfl ((880 + ra M0 o0 6 44).toNat)
                have h2270 : v2135.toNatClampNeg = (880 + ra M0 o0 6 44).toNat := by have := mz_nat9 (i := v2135) (by have := R2136.1 15 _ _ rfl; have := R2136.1 16 _ _ rfl; have := R2136.1 19 _ _ rfl; have := E2144.f yS; omega); have := R2136.1 15 _ _ rfl; have := R2136.1 16 _ _ rfl; have := R2136.1 19 _ _ rfl; have := E2144.f yS; omega
                rw [h2270] at f2266 f2267
                have K2271 : rK M0 M2258 o0 ((880 + ra M0 o0 6 44).toNat) := K2146.one8 (sA_c I2133 J2261 (I2133.up h_o0) (by decide)) f2266
                have K2272 : nN M2258 o0 := K2147.same (sA_c I2133 J2261 (I2133.up h_o0) (by decide)) (sF_c I2133 J2261 (I2133.up h_o0) (by decide))
                have q2273 := J2261.keep t2143 (by decide) q2148
                have t2274 := J2261.up t2149
                refine mv_goto (tgt := 165) d_TrustDeskModel_readClause_132 (by decide) ?_
                refine mv_aload_n d_TrustDeskModel_readClause_165 rfl rfl ?_
                refine mv_bipush (v := 59) d_TrustDeskModel_readClause_166 (by decide) ?_
                obtain ⟨_, b2281, -⟩ := I2262.1 _ _ t2268
                have : (59 : Int32).toInt = 59 := by decide
                refine mv_callV (kc' := 0) (ks' := 0) (As := [.int 59]) (st9 := [.int 59, .ref o0]) d_TrustDeskModel_readClause_168 lV_TrustDeskModel_291 b2281 rfl (tc_TrustDeskModel_wantSign_x (d := (d + 23)) (x9 := x9) (o0 := o0) (x1 := 59) t2268 R2264 E2269.1 (by have := R2264.1 15 _ _ rfl; have := R2264.1 16 _ _ rfl; have := R2264.1 19 _ _ rfl; have := E2269.f yS; omega) I2262.start) rfl (Nat.le_of_ble_eq_true rfl) (Nat.le_of_ble_eq_true rfl) (Nat.le_of_ble_eq_true rfl) (hst := rfl) (fun b2275r M2276 n2277 b2275 => ?_)
                obtain ⟨T2278, J2279, rfl, R2282, f2283⟩ := b2275
                have I2280 := I2262.call J2279 (tm_sub (by decide)) (Or.inl rfl)
                have t2284 := J2279.up t2268
                have := (rv_c I2262 J2279 (I2262.up h_o0) (k := 22) rfl)
                have := (rv_c I2262 J2279 (I2262.up h_o0) (k := 24) rfl)
                have := ra_call I2262 J2279 (I2262.up h_o0) (k := 5) rfl rfl rfl 44
                have := ra_call I2262 J2279 (I2262.up h_o0) (k := 6) rfl rfl rfl 44
                have E2285 : rE M0 M2276 o0 0 2 := E2269.trans f2283 (by decide) (yR.2 5 _ _ rfl 44).1 (by decide) (by decide)
                have := f2283.w
                have := f2283.w2
                have := ra_call I2262 J2279 (I2262.up h_o0) (k := 7) rfl rfl rfl ((880 + ra M0 o0 6 44).toNat)
                have := ra_call I2262 J2279 (I2262.up h_o0) (k := 10) rfl rfl rfl ((880 + ra M0 o0 6 44).toNat)
                have := ra_call I2262 J2279 (I2262.up h_o0) (k := 8) rfl rfl rfl ((880 + ra M0 o0 6 44).toNat)
                have K2286 : rK M0 M2276 o0 ((880 + ra M0 o0 6 44).toNat) := K2271.same (sA_c I2262 J2279 (I2262.up h_o0) (by decide))
                have K2287 : nN M2276 o0 := K2272.same (sA_c I2262 J2279 (I2262.up h_o0) (by decide)) (sF_c I2262 J2279 (I2262.up h_o0) (by decide))
                have q2288 := J2279.keep t2268 (by decide) q2273
                have t2289 := J2279.up t2274
                refine mv_aload_n d_TrustDeskModel_readClause_171 rfl rfl ?_
                obtain ⟨a2291, q2290, t_a2291⟩ := tm_atR I2280 t2284 (k := 12) rfl
                refine tr_getK q2290 d_TrustDeskModel_readClause_172 f_TrustDeskModel_41_13 ?_
                refine mv_iload_n d_TrustDeskModel_readClause_175 rfl rfl ?_
                refine mv_aload_n d_TrustDeskModel_readClause_176 rfl rfl ?_
                obtain ⟨a2293, q2292, t_a2293⟩ := tm_atR I2280 t2284 (k := 5) rfl
                refine tr_getK q2292 d_TrustDeskModel_readClause_177 f_TrustDeskModel_20_13 ?_
                refine mv_bipush (v := 44) d_TrustDeskModel_readClause_180 (by decide) ?_
                refine tr_ialdR (o := o0) (k := 5) I2280 q2292 t_a2293 (by decide) d_TrustDeskModel_readClause_182 (by unfold vp_in; decide) (fun v2294 e2295 => ?_)
                have := R2282.a (k := 5) rfl (44 : Int32).toNatClampNeg
                have : v2294.toInt = ra M2276 o0 5 44 := e2295
                refine tr_iastR (k := 12) I2280 R2282 (I2280.up h_o0) q2290 t_a2291 (by decide) (by decide) (fun lo hi h => by cases h; have := R2282.1 15 _ _ rfl; have := R2282.1 16 _ _ rfl; have := R2282.1 19 _ _ rfl; have := E2285.f yS; exact ⟨by show (0 : Int) ≤ v2294.toInt; omega, by show v2294.toInt ≤ (400 : Int); omega⟩) (Or.inl (by decide)) d_TrustDeskModel_readClause_183 (vp_in_iff.mpr (by have := R2282.1 15 _ _ rfl; have := R2282.1 16 _ _ rfl; have := R2282.1 19 _ _ rfl; have := E2285.f yS; omega)) (fun M2296 I2297 K2298 R2299 E2300 A2301 V2302 => ?_)
                have := V2302 15
                have := V2302 16
                have := V2302 17
                have := V2302 19
                have := V2302 22
                have := V2302 24
                have := A2301 5 (by decide) rfl 44
                have := A2301 6 (by decide) rfl 44
                have E2303 : rE M0 M2296 o0 0 2 := E2285.same (fun k _ _ => V2302 k) (fun k h1 h2 => A2301 k (by omega) (by rcases (show k = 4 ∨ k = 5 by omega) with rfl | rfl <;> rfl))
                have := A2301 7 (by decide) rfl ((880 + ra M0 o0 6 44).toNat)
                have := A2301 10 (by decide) rfl ((880 + ra M0 o0 6 44).toNat)
                have := A2301 8 (by decide) rfl ((880 + ra M0 o0 6 44).toNat)
                have h2304 : (880 + ra M0 o0 6 44).toNat = v2135.toNatClampNeg := by have := mz_nat9 (i := v2135) (by have := R2282.1 15 _ _ rfl; have := R2282.1 16 _ _ rfl; have := R2282.1 19 _ _ rfl; have := E2285.f yS; omega); have := R2282.1 15 _ _ rfl; have := R2282.1 16 _ _ rfl; have := R2282.1 19 _ _ rfl; have := E2285.f yS; omega
                have : ra M2296 o0 12 ((880 + ra M0 o0 6 44).toNat) = v2294.toInt := (E2300 _).trans (if_pos h2304)
                have K2305 : rK M0 M2296 o0 ((880 + ra M0 o0 6 44).toNat) := K2286.st A2301 E2300 (by have := mz_nat9 (i := v2135) (by have := R2282.1 15 _ _ rfl; have := R2282.1 16 _ _ rfl; have := R2282.1 19 _ _ rfl; have := E2285.f yS; omega); have := R2282.1 15 _ _ rfl; have := R2282.1 16 _ _ rfl; have := R2282.1 19 _ _ rfl; have := E2285.f yS; omega)
                have K2306 : nN M2296 o0 := K2287.same (sA_a A2301 (by decide)) (sF_a V2302)
                exact mv_vret d_TrustDeskModel_readClause_184 rfl ⟨_, I2297, rfl, R2299, (rW.of E2303.1 (fun w9 => (by have := R2299.1 15 _ _ rfl; have := R2299.1 16 _ _ rfl; have := R2299.1 19 _ _ rfl; have := E2303.f yS; omega)) (fun w9 => rG.step yG yR E2303 w9 K2305 (by have := yR.2 6 _ _ rfl 44; omega) (by have := R2299.1 15 _ _ rfl; have := R2299.1 16 _ _ rfl; have := R2299.1 19 _ _ rfl; have := E2303.f yS; omega) (by have := R2299.1 15 _ _ rfl; have := R2299.1 16 _ _ rfl; have := R2299.1 19 _ _ rfl; have := E2303.f yS; omega) (fun h9 => by exfalso; have := R2299.1 15 _ _ rfl; have := R2299.1 16 _ _ rfl; have := R2299.1 19 _ _ rfl; have := E2303.f yS; omega) (fun h9 => (by have := R2299.1 15 _ _ rfl; have := R2299.1 16 _ _ rfl; have := R2299.1 19 _ _ rfl; have := E2303.f yS; omega)) (by have := R2299.1 15 _ _ rfl; have := R2299.1 16 _ _ rfl; have := R2299.1 19 _ _ rfl; have := E2303.f yS; omega) K2306)), (rO.of E2303 K2305 (by have := yR.2 6 _ _ rfl 44; omega)), (by have := R2299.1 15 _ _ rfl; have := R2299.1 16 _ _ rfl; have := R2299.1 19 _ _ rfl; have := E2303.f yS; omega), (by have := R2299.1 15 _ _ rfl; have := R2299.1 16 _ _ rfl; have := R2299.1 19 _ _ rfl; have := E2303.f yS; omega), (fun h9 _ => absurd h9 (f16 (by have := R2299.1 15 _ _ rfl; have := R2299.1 16 _ _ rfl; have := R2299.1 19 _ _ rfl; have := E2303.f yS; omega)))⟩
      · refine mv_aload_n d_TrustDeskModel_readClause_32 rfl rfl ?_
        refine mv_iconst (v := 1) d_TrustDeskModel_readClause_33 (by decide) ?_
        obtain ⟨_, b2313, -⟩ := I1937.1 _ _ t1944
        have : (1 : Int32).toInt = 1 := by decide
        refine mv_callV (kc' := 0) (ks' := 0) (As := [.int 1]) (st9 := [.int 1, .ref o0]) d_TrustDeskModel_readClause_34 lV_TrustDeskModel_240 b2313 rfl (tc_TrustDeskModel_fails_x (d := (d + 25)) (x9 := x9) (o0 := o0) (x1 := 1) t1944 R1942 (by decide) I1937.start) rfl (Nat.le_of_ble_eq_true rfl) (Nat.le_of_ble_eq_true rfl) (Nat.le_of_ble_eq_true rfl) (hst := rfl) (fun b2307r M2308 n2309 b2307 => ?_)
        obtain ⟨T2310, J2311, rfl, R2314, f2315⟩ := b2307
        have I2312 := I1937.call J2311 (tm_sub (by decide)) (Or.inl rfl)
        have t2316 := J2311.up t1944
        have := (rv_c I1937 J2311 (I1937.up h_o0) (k := 15) rfl)
        have := (rv_c I1937 J2311 (I1937.up h_o0) (k := 16) rfl)
        have := (rv_c I1937 J2311 (I1937.up h_o0) (k := 17) rfl)
        have := (rv_c I1937 J2311 (I1937.up h_o0) (k := 22) rfl)
        have := (rv_c I1937 J2311 (I1937.up h_o0) (k := 24) rfl)
        have := ra_call I1937 J2311 (I1937.up h_o0) (k := 5) rfl rfl rfl 44
        have := ra_call I1937 J2311 (I1937.up h_o0) (k := 6) rfl rfl rfl 44
        have E2317 : rE M0 M2308 o0 0 0 := E1945.fails (rE_hv I1937 J2311 (I1937.up h_o0) 15 18 (by decide)) (rE_ha I1937 J2311 (I1937.up h_o0) (by decide)) f2315 0 0
        have K2318 : rK M0 M2308 o0 ((880 + ra M0 o0 6 44).toNat) := K1946.same (sA_c I1937 J2311 (I1937.up h_o0) (by decide))
        have K2319 : nN M2308 o0 := K1947.same (sA_c I1937 J2311 (I1937.up h_o0) (by decide)) (sF_c I1937 J2311 (I1937.up h_o0) (by decide))
        refine mv_goto (tgt := 70) d_TrustDeskModel_readClause_37 (by decide) ?_
        refine mv_aload_n d_TrustDeskModel_readClause_70 rfl rfl ?_
        obtain ⟨_, b2320, -⟩ := I2312.1 _ _ t2316
        refine mv_callV (kc1 := 0) (ks1 := 0) (kc' := 0) (ks' := 0) (As := []) (st9 := [.ref o0]) d_TrustDeskModel_readClause_71 lV_TrustDeskModel_230 b2320 rfl (mj_enter (by decide) (Nat.le_of_ble_eq_true rfl) ?_) rfl (Nat.le_of_ble_eq_true rfl) (Nat.le_of_ble_eq_true rfl) (Nat.le_of_ble_eq_true rfl) (hst := rfl) (fun _ _ _ h => h)
        refine mv_aload_n d_TrustDeskModel_isWell_0 rfl rfl ?_
        obtain ⟨v2322, q2321⟩ := tm_atI I2312 t2316 (k := 19) rfl
        refine tr_getK q2321 d_TrustDeskModel_isWell_1 f_TrustDeskModel_224_13 ?_
        have := R2314.f (k := 19) q2321 rfl
        have := tm_rv q2321
        refine mv_if_neZ (tgt := 11) (a := v2322.toInt) d_TrustDeskModel_isWell_4 (by decide) rfl (fun b2323 => ?_) (fun b2323 => ?_)
        · refine mv_iconst (v := 0) d_TrustDeskModel_isWell_11 (by decide) ?_
          refine mv_iret d_TrustDeskModel_isWell_12 rfl (by decide) ?_
          refine mv_if_ne_f (tgt := 78) d_TrustDeskModel_readClause_74 (by decide) (by decide) ?_
          exact mv_vret d_TrustDeskModel_readClause_77 rfl ⟨_, I2312, rfl, R2314, (rW.of E2317.1 (fun h9 => absurd h9 (by have := R2314.1 15 _ _ rfl; have := R2314.1 16 _ _ rfl; have := R2314.1 19 _ _ rfl; have := E2317.f yS; omega)) (fun h9 => absurd h9 (by have := R2314.1 15 _ _ rfl; have := R2314.1 16 _ _ rfl; have := R2314.1 19 _ _ rfl; have := E2317.f yS; omega))), (rO.of E2317 K2318 (by have := yR.2 6 _ _ rfl 44; omega)), (by have := R2314.1 15 _ _ rfl; have := R2314.1 16 _ _ rfl; have := R2314.1 19 _ _ rfl; have := E2317.f yS; omega), (by have := R2314.1 15 _ _ rfl; have := R2314.1 16 _ _ rfl; have := R2314.1 19 _ _ rfl; have := E2317.f yS; omega), (fun _ h9 => absurd h9 (by have := R2314.1 15 _ _ rfl; have := R2314.1 16 _ _ rfl; have := R2314.1 19 _ _ rfl; have := E2317.f yS; omega))⟩
        · exfalso
          have := R2314.1 15 _ _ rfl; have := R2314.1 16 _ _ rfl; have := R2314.1 19 _ _ rfl; have := E2317.f yS; omega
