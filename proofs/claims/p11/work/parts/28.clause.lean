abbrev kY_TrustDeskModel_readClause : mj_Y := (⟨"TrustDeskModel", "readClause", "()V"⟩, prog_14_method_38_code, 4, (Option.none : Option Jvm.ClassFile.FieldType))
theorem d_TrustDeskModel_readClause_0 : decode kY_TrustDeskModel_readClause.2.1 0 = .ok (.aload_n 0, 1) := by decide +kernel
theorem d_TrustDeskModel_readClause_1 : decode kY_TrustDeskModel_readClause.2.1 1 = .ok (.ldc_w 336, 3) := by decide +kernel
theorem d_TrustDeskModel_readClause_4 : decode kY_TrustDeskModel_readClause.2.1 4 = .ok (.invokevirtual 244, 3) := by decide +kernel
def w_TrustDeskModel_isWord_s1_42_x : List Nat := []
set_option maxHeartbeats 100000000 in theorem tc_TrustDeskModel_isWord_s1_42_x {g : mj_G} {l : Launch} {d : Nat} {T0 : tm_H} {M0 : mj_M} {n0 x9 : Nat} {o0 : Nat} (h_o0 : T0 o0 = some (0, 13, 0)) (yR : rI M0 o0) (I0 : tm_I tm_FT (tm_in w_TrustDeskModel_isWord_s1_42_x) x9 T0 M0 n0 T0 M0 n0) : mj_Met g l kY_TrustDeskModel_isWord (d + 4) [.ref o0, .ref 42] M0 n0 0 0 (tm_Q tm_FT (tm_in w_TrustDeskModel_isWord_s1_42_x) x9 T0 M0 n0 (fun r _ M => ∃ v : Int32, r = some (.int v) ∧ 0 ≤ v.toInt ∧ v.toInt ≤ 1 ∧ rI M o0 ∧ (v.toInt = 1 → rv M0 o0 17 = 3) ∧ (v.toInt = 1 → rwE M0 o0) ∧ (v.toInt = 0 → ¬ rwE M0 o0))) := by
  refine mj_enter (by decide) (Nat.le_of_ble_eq_true rfl) ?_
  refine mv_aload_n d_TrustDeskModel_isWord_0 rfl rfl ?_
  obtain ⟨v2, q1⟩ := tm_atI I0 h_o0 (k := 17) rfl
  refine tr_getK q1 d_TrustDeskModel_isWord_1 f_TrustDeskModel_198_13 ?_
  have := tm_rv q1
  refine mv_iconst (v := 3) d_TrustDeskModel_isWord_4 (by decide) ?_
  have := mz_hi v2
  refine mv_icmp_neZ (tgt := 24) (a := v2.toInt) (b := 3) d_TrustDeskModel_isWord_5 (by decide) rfl (by decide) (fun b3 => ?_) (fun b3 => ?_)
  · refine mv_iconst (v := 0) d_TrustDeskModel_isWord_24 (by decide) ?_
    exact mv_iret d_TrustDeskModel_isWord_25 rfl (by decide) ⟨_, I0, _, rfl, by decide, by decide, yR, (fun h => absurd h (by decide)), (fun h => absurd h (by decide)), (fun _ h => by obtain ⟨h1, h2, h3, h4, h5⟩ := h; have := yR.1 15 _ _ rfl; have := yR.1 16 _ _ rfl; have := yR.1 19 _ _ rfl; omega)⟩
  · refine mv_aload_n d_TrustDeskModel_isWord_8 rfl rfl ?_
    obtain ⟨v5, q4⟩ := tm_atI I0 h_o0 (k := 15) rfl
    refine tr_getK q4 d_TrustDeskModel_isWord_9 f_TrustDeskModel_192_13 ?_
    have := yR.f (k := 15) q4 rfl
    have := tm_rv q4
    refine mv_aload_n d_TrustDeskModel_isWord_12 rfl rfl ?_
    obtain ⟨v7, q6⟩ := tm_atI I0 h_o0 (k := 16) rfl
    refine tr_getK q6 d_TrustDeskModel_isWord_13 f_TrustDeskModel_195_13 ?_
    have := yR.f (k := 16) q6 rfl
    have := tm_rv q6
    refine mv_isub d_TrustDeskModel_isWord_16 ?_
    refine mv_aload_n d_TrustDeskModel_isWord_17 rfl rfl ?_
    refine mv_slenK (i := 32) (v := 3) d_TrustDeskModel_isWord_18 lV_TrustDeskModel_214 (by decide) rfl (by decide) (Nat.le_of_ble_eq_true rfl) ?_
    have b8 : (v5 - v7 : Int32).toInt = (v5.toInt - v7.toInt) := mz_sub2 rfl rfl (by have := yR.1 15 _ _ rfl; have := yR.1 16 _ _ rfl; have := yR.1 19 _ _ rfl; omega) (by have := yR.1 15 _ _ rfl; have := yR.1 16 _ _ rfl; have := yR.1 19 _ _ rfl; omega)
    have := mz_hi (v5 - v7)
    refine mv_icmp_eqZ (tgt := 26) (a := (v5 - v7).toInt) (b := 3) d_TrustDeskModel_isWord_21 (by decide) rfl (by decide) (fun b9 => ?_) (fun b9 => ?_)
    · refine mv_iconst (v := 0) d_TrustDeskModel_isWord_26 (by decide) ?_
      refine mv_istore_n (lv' := [(2, .int 0), (0, .ref o0), (1, .ref 42)]) d_TrustDeskModel_isWord_27 rfl (by decide) rfl ?_
      refine mv_iload_n d_TrustDeskModel_isWord_28 rfl rfl ?_
      refine mv_aload_n d_TrustDeskModel_isWord_29 rfl rfl ?_
      refine mv_slenK (i := 32) (v := 3) d_TrustDeskModel_isWord_30 lV_TrustDeskModel_214 (by decide) rfl (by decide) (Nat.le_of_ble_eq_true rfl) ?_
      refine mv_icmp_ge_f (tgt := 63) d_TrustDeskModel_isWord_33 (by decide) (by decide) ?_
      refine mv_aload_n d_TrustDeskModel_isWord_36 rfl rfl ?_
      obtain ⟨a11, q10, t_a11⟩ := tm_atR I0 h_o0 (k := 13) rfl
      refine tr_getK q10 d_TrustDeskModel_isWord_37 f_TrustDeskModel_44_13 ?_
      refine mv_aload_n d_TrustDeskModel_isWord_40 rfl rfl ?_
      refine tr_getK (k := 16) q6 d_TrustDeskModel_isWord_41 f_TrustDeskModel_195_13 ?_
      refine mv_iload_n d_TrustDeskModel_isWord_44 rfl rfl ?_
      refine mv_iadd d_TrustDeskModel_isWord_45 ?_
      have b12 : (v7 + 0 : Int32).toInt = (v7.toInt + 0) := mz_add2 rfl (by decide) (by have := yR.1 15 _ _ rfl; have := yR.1 16 _ _ rfl; have := yR.1 19 _ _ rfl; omega) (by have := yR.1 15 _ _ rfl; have := yR.1 16 _ _ rfl; have := yR.1 19 _ _ rfl; omega)
      refine tr_baldR (o := o0) (k := 13) I0 q10 t_a11 (by decide) d_TrustDeskModel_isWord_46 (vp_in_iff.mpr (by have := yR.1 15 _ _ rfl; have := yR.1 16 _ _ rfl; have := yR.1 19 _ _ rfl; omega)) (fun v13 e14 => ?_)
      have := yR.a (k := 13) rfl ((v7 + 0) : Int32).toNatClampNeg
      have h15 : (v7 + 0).toNatClampNeg = (rv M0 o0 16).toNat + 0 := by have := mz_nat9 (i := (v7 + 0)) (by have := yR.1 15 _ _ rfl; have := yR.1 16 _ _ rfl; have := yR.1 19 _ _ rfl; omega); have := yR.1 15 _ _ rfl; have := yR.1 16 _ _ rfl; have := yR.1 19 _ _ rfl; omega
      have : v13.toInt = ra M0 o0 13 ((rv M0 o0 16).toNat + 0) := by rw [e14, h15]
      refine mv_aload_n d_TrustDeskModel_isWord_47 rfl rfl ?_
      refine mv_iload_n d_TrustDeskModel_isWord_48 rfl rfl ?_
      refine mv_schC (i := 32) (v := 101) d_TrustDeskModel_isWord_49 lV_TrustDeskModel_220 (by decide) rfl (by decide) (by decide) (Nat.le_of_ble_eq_true rfl) (by decide) ?_
      have := mz_hi v13
      refine mv_icmp_eqZ (tgt := 57) (a := v13.toInt) (b := 101) d_TrustDeskModel_isWord_52 (by decide) rfl (by decide) (fun b16 => ?_) (fun b16 => ?_)
      · refine mv_iinc (v := 1) (lv' := [(2, .int 1), (0, .ref o0), (1, .ref 42)]) d_TrustDeskModel_isWord_57 rfl (by decide) (by decide) rfl ?_
        refine mv_goto (tgt := 28) d_TrustDeskModel_isWord_60 (by decide) ?_
        refine mv_iload_n d_TrustDeskModel_isWord_28 rfl rfl ?_
        refine mv_aload_n d_TrustDeskModel_isWord_29 rfl rfl ?_
        refine mv_slenK (i := 32) (v := 3) d_TrustDeskModel_isWord_30 lV_TrustDeskModel_214 (by decide) rfl (by decide) (Nat.le_of_ble_eq_true rfl) ?_
        refine mv_icmp_ge_f (tgt := 63) d_TrustDeskModel_isWord_33 (by decide) (by decide) ?_
        refine mv_aload_n d_TrustDeskModel_isWord_36 rfl rfl ?_
        refine tr_getK (k := 13) q10 d_TrustDeskModel_isWord_37 f_TrustDeskModel_44_13 ?_
        refine mv_aload_n d_TrustDeskModel_isWord_40 rfl rfl ?_
        refine tr_getK (k := 16) q6 d_TrustDeskModel_isWord_41 f_TrustDeskModel_195_13 ?_
        refine mv_iload_n d_TrustDeskModel_isWord_44 rfl rfl ?_
        refine mv_iadd d_TrustDeskModel_isWord_45 ?_
        have b17 : (v7 + 1 : Int32).toInt = (v7.toInt + 1) := mz_add2 rfl (by decide) (by have := yR.1 15 _ _ rfl; have := yR.1 16 _ _ rfl; have := yR.1 19 _ _ rfl; omega) (by have := yR.1 15 _ _ rfl; have := yR.1 16 _ _ rfl; have := yR.1 19 _ _ rfl; omega)
        refine tr_baldR (o := o0) (k := 13) I0 q10 t_a11 (by decide) d_TrustDeskModel_isWord_46 (vp_in_iff.mpr (by have := yR.1 15 _ _ rfl; have := yR.1 16 _ _ rfl; have := yR.1 19 _ _ rfl; omega)) (fun v18 e19 => ?_)
        have := yR.a (k := 13) rfl ((v7 + 1) : Int32).toNatClampNeg
        have h20 : (v7 + 1).toNatClampNeg = (rv M0 o0 16).toNat + 1 := by have := mz_nat9 (i := (v7 + 1)) (by have := yR.1 15 _ _ rfl; have := yR.1 16 _ _ rfl; have := yR.1 19 _ _ rfl; omega); have := yR.1 15 _ _ rfl; have := yR.1 16 _ _ rfl; have := yR.1 19 _ _ rfl; omega
        have : v18.toInt = ra M0 o0 13 ((rv M0 o0 16).toNat + 1) := by rw [e19, h20]
        refine mv_aload_n d_TrustDeskModel_isWord_47 rfl rfl ?_
        refine mv_iload_n d_TrustDeskModel_isWord_48 rfl rfl ?_
        refine mv_schC (i := 32) (v := 110) d_TrustDeskModel_isWord_49 lV_TrustDeskModel_220 (by decide) rfl (by decide) (by decide) (Nat.le_of_ble_eq_true rfl) (by decide) ?_
        have := mz_hi v18
        refine mv_icmp_eqZ (tgt := 57) (a := v18.toInt) (b := 110) d_TrustDeskModel_isWord_52 (by decide) rfl (by decide) (fun b21 => ?_) (fun b21 => ?_)
        · refine mv_iinc (v := 2) (lv' := [(2, .int 2), (0, .ref o0), (1, .ref 42)]) d_TrustDeskModel_isWord_57 rfl (by decide) (by decide) rfl ?_
          refine mv_goto (tgt := 28) d_TrustDeskModel_isWord_60 (by decide) ?_
          refine mv_iload_n d_TrustDeskModel_isWord_28 rfl rfl ?_
          refine mv_aload_n d_TrustDeskModel_isWord_29 rfl rfl ?_
          refine mv_slenK (i := 32) (v := 3) d_TrustDeskModel_isWord_30 lV_TrustDeskModel_214 (by decide) rfl (by decide) (Nat.le_of_ble_eq_true rfl) ?_
          refine mv_icmp_ge_f (tgt := 63) d_TrustDeskModel_isWord_33 (by decide) (by decide) ?_
          refine mv_aload_n d_TrustDeskModel_isWord_36 rfl rfl ?_
          refine tr_getK (k := 13) q10 d_TrustDeskModel_isWord_37 f_TrustDeskModel_44_13 ?_
          refine mv_aload_n d_TrustDeskModel_isWord_40 rfl rfl ?_
          refine tr_getK (k := 16) q6 d_TrustDeskModel_isWord_41 f_TrustDeskModel_195_13 ?_
          refine mv_iload_n d_TrustDeskModel_isWord_44 rfl rfl ?_
          refine mv_iadd d_TrustDeskModel_isWord_45 ?_
          have b22 : (v7 + 2 : Int32).toInt = (v7.toInt + 2) := mz_add2 rfl (by decide) (by have := yR.1 15 _ _ rfl; have := yR.1 16 _ _ rfl; have := yR.1 19 _ _ rfl; omega) (by have := yR.1 15 _ _ rfl; have := yR.1 16 _ _ rfl; have := yR.1 19 _ _ rfl; omega)
          refine tr_baldR (o := o0) (k := 13) I0 q10 t_a11 (by decide) d_TrustDeskModel_isWord_46 (vp_in_iff.mpr (by have := yR.1 15 _ _ rfl; have := yR.1 16 _ _ rfl; have := yR.1 19 _ _ rfl; omega)) (fun v23 e24 => ?_)
          have := yR.a (k := 13) rfl ((v7 + 2) : Int32).toNatClampNeg
          have h25 : (v7 + 2).toNatClampNeg = (rv M0 o0 16).toNat + 2 := by have := mz_nat9 (i := (v7 + 2)) (by have := yR.1 15 _ _ rfl; have := yR.1 16 _ _ rfl; have := yR.1 19 _ _ rfl; omega); have := yR.1 15 _ _ rfl; have := yR.1 16 _ _ rfl; have := yR.1 19 _ _ rfl; omega
          have : v23.toInt = ra M0 o0 13 ((rv M0 o0 16).toNat + 2) := by rw [e24, h25]
          refine mv_aload_n d_TrustDeskModel_isWord_47 rfl rfl ?_
          refine mv_iload_n d_TrustDeskModel_isWord_48 rfl rfl ?_
          refine mv_schC (i := 32) (v := 100) d_TrustDeskModel_isWord_49 lV_TrustDeskModel_220 (by decide) rfl (by decide) (by decide) (Nat.le_of_ble_eq_true rfl) (by decide) ?_
          have := mz_hi v23
          refine mv_icmp_eqZ (tgt := 57) (a := v23.toInt) (b := 100) d_TrustDeskModel_isWord_52 (by decide) rfl (by decide) (fun b26 => ?_) (fun b26 => ?_)
          · refine mv_iinc (v := 3) (lv' := [(2, .int 3), (0, .ref o0), (1, .ref 42)]) d_TrustDeskModel_isWord_57 rfl (by decide) (by decide) rfl ?_
            refine mv_goto (tgt := 28) d_TrustDeskModel_isWord_60 (by decide) ?_
            refine mv_iload_n d_TrustDeskModel_isWord_28 rfl rfl ?_
            refine mv_aload_n d_TrustDeskModel_isWord_29 rfl rfl ?_
            refine mv_slenK (i := 32) (v := 3) d_TrustDeskModel_isWord_30 lV_TrustDeskModel_214 (by decide) rfl (by decide) (Nat.le_of_ble_eq_true rfl) ?_
            refine mv_icmp_ge_t (tgt := 63) d_TrustDeskModel_isWord_33 (by decide) (by decide) ?_
            refine mv_iconst (v := 1) d_TrustDeskModel_isWord_63 (by decide) ?_
            exact mv_iret d_TrustDeskModel_isWord_64 rfl (by decide) ⟨_, I0, _, rfl, by decide, by decide, yR, (fun _ => by have := yR.1 15 _ _ rfl; have := yR.1 16 _ _ rfl; have := yR.1 19 _ _ rfl; omega), (fun _ => ⟨by have := yR.1 15 _ _ rfl; have := yR.1 16 _ _ rfl; have := yR.1 19 _ _ rfl; omega, by have := yR.1 15 _ _ rfl; have := yR.1 16 _ _ rfl; have := yR.1 19 _ _ rfl; omega, by have := yR.1 15 _ _ rfl; have := yR.1 16 _ _ rfl; have := yR.1 19 _ _ rfl; omega, by have := yR.1 15 _ _ rfl; have := yR.1 16 _ _ rfl; have := yR.1 19 _ _ rfl; omega, by have := yR.1 15 _ _ rfl; have := yR.1 16 _ _ rfl; have := yR.1 19 _ _ rfl; omega⟩), (fun h => absurd h (by decide))⟩
          · refine mv_iconst (v := 0) d_TrustDeskModel_isWord_55 (by decide) ?_
            exact mv_iret d_TrustDeskModel_isWord_56 rfl (by decide) ⟨_, I0, _, rfl, by decide, by decide, yR, (fun h => absurd h (by decide)), (fun h => absurd h (by decide)), (fun _ h => by obtain ⟨h1, h2, h3, h4, h5⟩ := h; have := yR.1 15 _ _ rfl; have := yR.1 16 _ _ rfl; have := yR.1 19 _ _ rfl; omega)⟩
        · refine mv_iconst (v := 0) d_TrustDeskModel_isWord_55 (by decide) ?_
          exact mv_iret d_TrustDeskModel_isWord_56 rfl (by decide) ⟨_, I0, _, rfl, by decide, by decide, yR, (fun h => absurd h (by decide)), (fun h => absurd h (by decide)), (fun _ h => by obtain ⟨h1, h2, h3, h4, h5⟩ := h; have := yR.1 15 _ _ rfl; have := yR.1 16 _ _ rfl; have := yR.1 19 _ _ rfl; omega)⟩
      · refine mv_iconst (v := 0) d_TrustDeskModel_isWord_55 (by decide) ?_
        exact mv_iret d_TrustDeskModel_isWord_56 rfl (by decide) ⟨_, I0, _, rfl, by decide, by decide, yR, (fun h => absurd h (by decide)), (fun h => absurd h (by decide)), (fun _ h => by obtain ⟨h1, h2, h3, h4, h5⟩ := h; have := yR.1 15 _ _ rfl; have := yR.1 16 _ _ rfl; have := yR.1 19 _ _ rfl; omega)⟩
    · refine mv_iconst (v := 0) d_TrustDeskModel_isWord_24 (by decide) ?_
      exact mv_iret d_TrustDeskModel_isWord_25 rfl (by decide) ⟨_, I0, _, rfl, by decide, by decide, yR, (fun h => absurd h (by decide)), (fun h => absurd h (by decide)), (fun _ h => by obtain ⟨h1, h2, h3, h4, h5⟩ := h; have := yR.1 15 _ _ rfl; have := yR.1 16 _ _ rfl; have := yR.1 19 _ _ rfl; omega)⟩
theorem d_TrustDeskModel_readClause_7 : decode kY_TrustDeskModel_readClause.2.1 7 = .ok (.istore_n 1, 1) := by decide +kernel
theorem d_TrustDeskModel_readClause_8 : decode kY_TrustDeskModel_readClause.2.1 8 = .ok (.iload_n 1, 1) := by decide +kernel
theorem d_TrustDeskModel_readClause_9 : decode kY_TrustDeskModel_readClause.2.1 9 = .ok (.ifCond .ne 31, 3) := by decide +kernel
theorem d_TrustDeskModel_readClause_40 : decode kY_TrustDeskModel_readClause.2.1 40 = .ok (.aload_n 0, 1) := by decide +kernel
theorem d_TrustDeskModel_readClause_41 : decode kY_TrustDeskModel_readClause.2.1 41 = .ok (.getfield 23, 3) := by decide +kernel
theorem d_TrustDeskModel_readClause_44 : decode kY_TrustDeskModel_readClause.2.1 44 = .ok (.bipush 44, 2) := by decide +kernel
theorem d_TrustDeskModel_readClause_46 : decode kY_TrustDeskModel_readClause.2.1 46 = .ok (.iaload, 1) := by decide +kernel
theorem d_TrustDeskModel_readClause_47 : decode kY_TrustDeskModel_readClause.2.1 47 = .ok (.bipush 12, 2) := by decide +kernel
theorem d_TrustDeskModel_readClause_49 : decode kY_TrustDeskModel_readClause.2.1 49 = .ok (.if_icmp .eq 16, 3) := by decide +kernel
theorem d_TrustDeskModel_readClause_65 : decode kY_TrustDeskModel_readClause.2.1 65 = .ok (.aload_n 0, 1) := by decide +kernel
theorem d_TrustDeskModel_readClause_66 : decode kY_TrustDeskModel_readClause.2.1 66 = .ok (.iconst 4, 1) := by decide +kernel
theorem d_TrustDeskModel_readClause_67 : decode kY_TrustDeskModel_readClause.2.1 67 = .ok (.invokevirtual 240, 3) := by decide +kernel
theorem d_TrustDeskModel_readClause_70 : decode kY_TrustDeskModel_readClause.2.1 70 = .ok (.aload_n 0, 1) := by decide +kernel
theorem d_TrustDeskModel_readClause_71 : decode kY_TrustDeskModel_readClause.2.1 71 = .ok (.invokevirtual 230, 3) := by decide +kernel
theorem d_TrustDeskModel_readClause_74 : decode kY_TrustDeskModel_readClause.2.1 74 = .ok (.ifCond .ne 4, 3) := by decide +kernel
theorem d_TrustDeskModel_readClause_77 : decode kY_TrustDeskModel_readClause.2.1 77 = .ok (.return_, 1) := by decide +kernel
theorem d_TrustDeskModel_readClause_52 : decode kY_TrustDeskModel_readClause.2.1 52 = .ok (.iload_n 1, 1) := by decide +kernel
theorem d_TrustDeskModel_readClause_53 : decode kY_TrustDeskModel_readClause.2.1 53 = .ok (.ifCond .eq 17, 3) := by decide +kernel
theorem d_TrustDeskModel_readClause_78 : decode kY_TrustDeskModel_readClause.2.1 78 = .ok (.aload_n 0, 1) := by decide +kernel
theorem d_TrustDeskModel_readClause_79 : decode kY_TrustDeskModel_readClause.2.1 79 = .ok (.ldc_w 338, 3) := by decide +kernel
theorem d_TrustDeskModel_readClause_82 : decode kY_TrustDeskModel_readClause.2.1 82 = .ok (.invokevirtual 244, 3) := by decide +kernel
def w_TrustDeskModel_isWord_s1_43_x : List Nat := []
theorem tc_TrustDeskModel_isWord_s1_43_x {g : mj_G} {l : Launch} {d : Nat} {T0 : tm_H} {M0 : mj_M} {n0 x9 : Nat} {o0 : Nat} (h_o0 : T0 o0 = some (0, 13, 0)) (yR : rI M0 o0) (I0 : tm_I tm_FT (tm_in w_TrustDeskModel_isWord_s1_43_x) x9 T0 M0 n0 T0 M0 n0) : mj_Met g l kY_TrustDeskModel_isWord (d + 4) [.ref o0, .ref 43] M0 n0 0 0 (tm_Q tm_FT (tm_in w_TrustDeskModel_isWord_s1_43_x) x9 T0 M0 n0 (fun r _ M => ∃ v : Int32, r = some (.int v) ∧ 0 ≤ v.toInt ∧ v.toInt ≤ 1 ∧ rI M o0 ∧ (v.toInt = 1 → rv M0 o0 17 = 3))) := by
  refine mj_enter (by decide) (Nat.le_of_ble_eq_true rfl) ?_
  refine mv_aload_n d_TrustDeskModel_isWord_0 rfl rfl ?_
  obtain ⟨v2, q1⟩ := tm_atI I0 h_o0 (k := 17) rfl
  refine tr_getK q1 d_TrustDeskModel_isWord_1 f_TrustDeskModel_198_13 ?_
  have := tm_rv q1
  refine mv_iconst (v := 3) d_TrustDeskModel_isWord_4 (by decide) ?_
  have := mz_hi v2
  refine mv_icmp_neZ (tgt := 24) (a := v2.toInt) (b := 3) d_TrustDeskModel_isWord_5 (by decide) rfl (by decide) (fun b3 => ?_) (fun b3 => ?_)
  · refine mv_iconst (v := 0) d_TrustDeskModel_isWord_24 (by decide) ?_
    exact mv_iret d_TrustDeskModel_isWord_25 rfl (by decide) ⟨_, I0, _, rfl, by decide, by decide, yR, (fun h => absurd h (by decide))⟩
  · refine mv_aload_n d_TrustDeskModel_isWord_8 rfl rfl ?_
    obtain ⟨v5, q4⟩ := tm_atI I0 h_o0 (k := 15) rfl
    refine tr_getK q4 d_TrustDeskModel_isWord_9 f_TrustDeskModel_192_13 ?_
    have := yR.f (k := 15) q4 rfl
    have := tm_rv q4
    refine mv_aload_n d_TrustDeskModel_isWord_12 rfl rfl ?_
    obtain ⟨v7, q6⟩ := tm_atI I0 h_o0 (k := 16) rfl
    refine tr_getK q6 d_TrustDeskModel_isWord_13 f_TrustDeskModel_195_13 ?_
    have := yR.f (k := 16) q6 rfl
    have := tm_rv q6
    refine mv_isub d_TrustDeskModel_isWord_16 ?_
    refine mv_aload_n d_TrustDeskModel_isWord_17 rfl rfl ?_
    refine mv_slenK (i := 33) (v := 4) d_TrustDeskModel_isWord_18 lV_TrustDeskModel_214 (by decide) rfl (by decide) (Nat.le_of_ble_eq_true rfl) ?_
    have b8 : (v5 - v7 : Int32).toInt = (v5.toInt - v7.toInt) := mz_sub2 rfl rfl (by have := yR.1 15 _ _ rfl; have := yR.1 16 _ _ rfl; have := yR.1 19 _ _ rfl; omega) (by have := yR.1 15 _ _ rfl; have := yR.1 16 _ _ rfl; have := yR.1 19 _ _ rfl; omega)
    have := mz_hi (v5 - v7)
    refine mv_icmp_eqZ (tgt := 26) (a := (v5 - v7).toInt) (b := 4) d_TrustDeskModel_isWord_21 (by decide) rfl (by decide) (fun b9 => ?_) (fun b9 => ?_)
    · refine mv_iconst (v := 0) d_TrustDeskModel_isWord_26 (by decide) ?_
      refine mv_istore_n (lv' := [(2, .int 0), (0, .ref o0), (1, .ref 43)]) d_TrustDeskModel_isWord_27 rfl (by decide) rfl ?_
      have L28_10 : ∀ (k : Nat) (i2_10 : Int32) (T_10 : tm_H) (M_10 : mj_M) (n_10 : Nat), tm_I tm_FT (tm_in w_TrustDeskModel_isWord_s1_43_x) x9 T0 M0 n0 T_10 M_10 n_10 → T_10 o0 = some (0, 13, 0) → 0 ≤ i2_10.toInt → rv M_10 o0 15 = rv M0 o0 15 → rv M_10 o0 16 = rv M0 o0 16 → i2_10.toInt ≤ 2147483646 → (rI M_10 o0) → 2147483647 - i2_10.toInt < (k : Int) → mj_V g l kY_TrustDeskModel_isWord (d + 4) 28 [(2, .int i2_10), (0, .ref o0), (1, .ref 43)] [] M_10 n_10 0 0 (tm_Q tm_FT (tm_in w_TrustDeskModel_isWord_s1_43_x) x9 T0 M0 n0 (fun r _ M => ∃ v : Int32, r = some (.int v) ∧ 0 ≤ v.toInt ∧ v.toInt ≤ 1 ∧ rI M o0 ∧ (v.toInt = 1 → rv M0 o0 17 = 3))) := by
        intro k10
        induction k10 with
        | zero =>
          intro i2_10 T_10 M_10 n_10 I_10 h_q0_10 iv0_10 iv1_10 iv2_10 iv3_10 kKR_10 hk10
          have := mz_hi i2_10
          have := kKR_10.1 15 _ _ rfl
          have := kKR_10.1 16 _ _ rfl
          have := kKR_10.1 19 _ _ rfl
          omega
        | succ k10 ih10 =>
          intro i2_10 T_10 M_10 n_10 I_10 h_q0_10 iv0_10 iv1_10 iv2_10 iv3_10 kKR_10 hk10
          refine mv_iload_n d_TrustDeskModel_isWord_28 rfl rfl ?_
          refine mv_aload_n d_TrustDeskModel_isWord_29 rfl rfl ?_
          refine mv_slenK (i := 33) (v := 4) d_TrustDeskModel_isWord_30 lV_TrustDeskModel_214 (by decide) rfl (by decide) (Nat.le_of_ble_eq_true rfl) ?_
          have := mz_hi i2_10
          refine mv_icmp_geZ (tgt := 63) (a := i2_10.toInt) (b := 4) d_TrustDeskModel_isWord_33 (by decide) rfl (by decide) (fun b11 => ?_) (fun b11 => ?_)
          · refine mv_iconst (v := 1) d_TrustDeskModel_isWord_63 (by decide) ?_
            exact mv_iret d_TrustDeskModel_isWord_64 rfl (by decide) ⟨_, I_10, _, rfl, by decide, by decide, kKR_10, (fun _ => by omega)⟩
          · refine mv_aload_n d_TrustDeskModel_isWord_36 rfl rfl ?_
            obtain ⟨a13, q12, t_a13⟩ := tm_atR I_10 h_q0_10 (k := 13) rfl
            refine tr_getK q12 d_TrustDeskModel_isWord_37 f_TrustDeskModel_44_13 ?_
            refine mv_aload_n d_TrustDeskModel_isWord_40 rfl rfl ?_
            obtain ⟨v15, q14⟩ := tm_atI I_10 h_q0_10 (k := 16) rfl
            refine tr_getK q14 d_TrustDeskModel_isWord_41 f_TrustDeskModel_195_13 ?_
            have := kKR_10.f (k := 16) q14 rfl
            have := tm_rv q14
            refine mv_iload_n d_TrustDeskModel_isWord_44 rfl rfl ?_
            refine mv_iadd d_TrustDeskModel_isWord_45 ?_
            have b16 : (v15 + i2_10 : Int32).toInt = (v15.toInt + i2_10.toInt) := mz_add2 rfl rfl (by have := kKR_10.1 15 _ _ rfl; have := kKR_10.1 16 _ _ rfl; have := kKR_10.1 19 _ _ rfl; omega) (by have := kKR_10.1 15 _ _ rfl; have := kKR_10.1 16 _ _ rfl; have := kKR_10.1 19 _ _ rfl; omega)
            refine tr_baldR (o := o0) (k := 13) I_10 q12 t_a13 (by decide) d_TrustDeskModel_isWord_46 (vp_in_iff.mpr (by have := kKR_10.1 15 _ _ rfl; have := kKR_10.1 16 _ _ rfl; have := kKR_10.1 19 _ _ rfl; omega)) (fun v17 e18 => ?_)
            have := kKR_10.a (k := 13) rfl ((v15 + i2_10) : Int32).toNatClampNeg
            refine mv_aload_n d_TrustDeskModel_isWord_47 rfl rfl ?_
            refine mv_iload_n d_TrustDeskModel_isWord_48 rfl rfl ?_
            refine mv_schN (i := 33) (N := 4) d_TrustDeskModel_isWord_49 lV_TrustDeskModel_220 (by decide) rfl rfl (by omega) (by omega) (Nat.le_of_ble_eq_true rfl) (fun v19 => ?_)
            have := mz_hi v17
            have := mz_hi v19
            refine mv_icmp_eqZ (tgt := 57) (a := v17.toInt) (b := v19.toInt) d_TrustDeskModel_isWord_52 (by decide) rfl rfl (fun b20 => ?_) (fun b20 => ?_)
            · refine mv_iinc (v := (i2_10 + 1)) (lv' := [(2, .int (i2_10 + 1)), (0, .ref o0), (1, .ref 43)]) d_TrustDeskModel_isWord_57 rfl rfl (by decide) rfl ?_
              refine mv_goto (tgt := 28) d_TrustDeskModel_isWord_60 (by decide) ?_
              have b21 : (i2_10 + 1).toInt = i2_10.toInt + 1 := mz_addn 1 1 (by decide) (by have := mz_lo i2_10; omega) (by have := mz_hi i2_10; omega)
              exact (ih10 (i2_10 + 1) T_10 M_10 n_10 I_10 h_q0_10 (by have := kKR_10.1 15 _ _ rfl; have := kKR_10.1 16 _ _ rfl; have := kKR_10.1 19 _ _ rfl; first | omega | decide | exact fun h9 => absurd (by decide) h9) (by have := kKR_10.1 15 _ _ rfl; have := kKR_10.1 16 _ _ rfl; have := kKR_10.1 19 _ _ rfl; first | omega | decide | exact fun h9 => absurd (by decide) h9) (by have := kKR_10.1 15 _ _ rfl; have := kKR_10.1 16 _ _ rfl; have := kKR_10.1 19 _ _ rfl; first | omega | decide | exact fun h9 => absurd (by decide) h9) (by have := kKR_10.1 15 _ _ rfl; have := kKR_10.1 16 _ _ rfl; have := kKR_10.1 19 _ _ rfl; first | omega | decide | exact fun h9 => absurd (by decide) h9) kKR_10 (by have := kKR_10.1 15 _ _ rfl; have := kKR_10.1 16 _ _ rfl; have := kKR_10.1 19 _ _ rfl; omega))
            · refine mv_iconst (v := 0) d_TrustDeskModel_isWord_55 (by decide) ?_
              exact mv_iret d_TrustDeskModel_isWord_56 rfl (by decide) ⟨_, I_10, _, rfl, by decide, by decide, kKR_10, (fun h => absurd h (by decide))⟩
      exact mv_less (Nat.zero_le _) (Nat.zero_le _) (L28_10 4294967296 0 T0 M0 n0 I0 h_o0 (by have := yR.1 15 _ _ rfl; have := yR.1 16 _ _ rfl; have := yR.1 19 _ _ rfl; first | omega | decide | exact fun h9 => absurd (by decide) h9) (by have := yR.1 15 _ _ rfl; have := yR.1 16 _ _ rfl; have := yR.1 19 _ _ rfl; first | omega | decide | exact fun h9 => absurd (by decide) h9) (by have := yR.1 15 _ _ rfl; have := yR.1 16 _ _ rfl; have := yR.1 19 _ _ rfl; first | omega | decide | exact fun h9 => absurd (by decide) h9) (by have := yR.1 15 _ _ rfl; have := yR.1 16 _ _ rfl; have := yR.1 19 _ _ rfl; first | omega | decide | exact fun h9 => absurd (by decide) h9) yR (by show (2147483647 - (0 : Int) : Int) < _; decide))
    · refine mv_iconst (v := 0) d_TrustDeskModel_isWord_24 (by decide) ?_
      exact mv_iret d_TrustDeskModel_isWord_25 rfl (by decide) ⟨_, I0, _, rfl, by decide, by decide, yR, (fun h => absurd h (by decide))⟩
theorem d_TrustDeskModel_readClause_85 : decode kY_TrustDeskModel_readClause.2.1 85 = .ok (.istore_n 2, 1) := by decide +kernel
theorem d_TrustDeskModel_readClause_86 : decode kY_TrustDeskModel_readClause.2.1 86 = .ok (.aload_n 0, 1) := by decide +kernel
theorem d_TrustDeskModel_readClause_87 : decode kY_TrustDeskModel_readClause.2.1 87 = .ok (.iload_n 1, 1) := by decide +kernel
theorem d_TrustDeskModel_readClause_88 : decode kY_TrustDeskModel_readClause.2.1 88 = .ok (.ifCond .eq 8, 3) := by decide +kernel
theorem d_TrustDeskModel_readClause_96 : decode kY_TrustDeskModel_readClause.2.1 96 = .ok (.iload_n 2, 1) := by decide +kernel
theorem d_TrustDeskModel_readClause_97 : decode kY_TrustDeskModel_readClause.2.1 97 = .ok (.ifCond .eq 8, 3) := by decide +kernel
theorem d_TrustDeskModel_readClause_105 : decode kY_TrustDeskModel_readClause.2.1 105 = .ok (.bipush 9, 2) := by decide +kernel
theorem d_TrustDeskModel_readClause_107 : decode kY_TrustDeskModel_readClause.2.1 107 = .ok (.invokevirtual 342, 3) := by decide +kernel
theorem lV_TrustDeskModel_342 : mj_lV "TrustDeskModel" 342 kY_TrustDeskModel_begin 1 := ⟨⟨(mj_in1 (List.mem_of_getElem? (i := 1691) (by decide +kernel)) rfl), (mj_in1 (List.mem_of_getElem? (i := 10) (by decide +kernel)) rfl), (mj_in1 (List.mem_of_getElem? (i := 1694) (by decide +kernel)) rfl), by decide, rfl, by decide⟩, (mj_in1 (List.mem_of_getElem? (i := 1693) (by decide +kernel)) rfl), (mj_in (List.mem_append_left _ (List.mem_of_getElem? (i := 88) (by decide +kernel))) rfl)⟩
theorem d_TrustDeskModel_readClause_110 : decode kY_TrustDeskModel_readClause.2.1 110 = .ok (.istore_n 3, 1) := by decide +kernel
theorem d_TrustDeskModel_readClause_111 : decode kY_TrustDeskModel_readClause.2.1 111 = .ok (.iload_n 1, 1) := by decide +kernel
theorem d_TrustDeskModel_readClause_112 : decode kY_TrustDeskModel_readClause.2.1 112 = .ok (.ifCond .eq 11, 3) := by decide +kernel
theorem d_TrustDeskModel_readClause_123 : decode kY_TrustDeskModel_readClause.2.1 123 = .ok (.iload_n 2, 1) := by decide +kernel
theorem d_TrustDeskModel_readClause_124 : decode kY_TrustDeskModel_readClause.2.1 124 = .ok (.ifCond .eq 11, 3) := by decide +kernel
theorem d_TrustDeskModel_readClause_135 : decode kY_TrustDeskModel_readClause.2.1 135 = .ok (.aload_n 0, 1) := by decide +kernel
theorem d_TrustDeskModel_readClause_136 : decode kY_TrustDeskModel_readClause.2.1 136 = .ok (.getfield 29, 3) := by decide +kernel
theorem d_TrustDeskModel_readClause_139 : decode kY_TrustDeskModel_readClause.2.1 139 = .ok (.iload_n 3, 1) := by decide +kernel
theorem d_TrustDeskModel_readClause_140 : decode kY_TrustDeskModel_readClause.2.1 140 = .ok (.aload_n 0, 1) := by decide +kernel
theorem d_TrustDeskModel_readClause_141 : decode kY_TrustDeskModel_readClause.2.1 141 = .ok (.iconst 1, 1) := by decide +kernel
theorem d_TrustDeskModel_readClause_142 : decode kY_TrustDeskModel_readClause.2.1 142 = .ok (.bipush 7, 2) := by decide +kernel
theorem d_TrustDeskModel_readClause_144 : decode kY_TrustDeskModel_readClause.2.1 144 = .ok (.invokevirtual 317, 3) := by decide +kernel
theorem d_TrustDeskModel_readClause_147 : decode kY_TrustDeskModel_readClause.2.1 147 = .ok (.iastore, 1) := by decide +kernel
theorem d_TrustDeskModel_readClause_148 : decode kY_TrustDeskModel_readClause.2.1 148 = .ok (.aload_n 0, 1) := by decide +kernel
theorem d_TrustDeskModel_readClause_149 : decode kY_TrustDeskModel_readClause.2.1 149 = .ok (.getfield 32, 3) := by decide +kernel
theorem d_TrustDeskModel_readClause_152 : decode kY_TrustDeskModel_readClause.2.1 152 = .ok (.iload_n 3, 1) := by decide +kernel
theorem d_TrustDeskModel_readClause_153 : decode kY_TrustDeskModel_readClause.2.1 153 = .ok (.aload_n 0, 1) := by decide +kernel
theorem d_TrustDeskModel_readClause_154 : decode kY_TrustDeskModel_readClause.2.1 154 = .ok (.iconst 1, 1) := by decide +kernel
theorem d_TrustDeskModel_readClause_155 : decode kY_TrustDeskModel_readClause.2.1 155 = .ok (.aload_n 0, 1) := by decide +kernel
theorem d_TrustDeskModel_readClause_156 : decode kY_TrustDeskModel_readClause.2.1 156 = .ok (.getfield 29, 3) := by decide +kernel
theorem d_TrustDeskModel_readClause_159 : decode kY_TrustDeskModel_readClause.2.1 159 = .ok (.iload_n 3, 1) := by decide +kernel
theorem d_TrustDeskModel_readClause_160 : decode kY_TrustDeskModel_readClause.2.1 160 = .ok (.iaload, 1) := by decide +kernel
theorem d_TrustDeskModel_readClause_161 : decode kY_TrustDeskModel_readClause.2.1 161 = .ok (.invokevirtual 317, 3) := by decide +kernel
theorem d_TrustDeskModel_readClause_164 : decode kY_TrustDeskModel_readClause.2.1 164 = .ok (.iastore, 1) := by decide +kernel
theorem d_TrustDeskModel_readClause_165 : decode kY_TrustDeskModel_readClause.2.1 165 = .ok (.aload_n 0, 1) := by decide +kernel
theorem d_TrustDeskModel_readClause_166 : decode kY_TrustDeskModel_readClause.2.1 166 = .ok (.bipush 59, 2) := by decide +kernel
theorem d_TrustDeskModel_readClause_168 : decode kY_TrustDeskModel_readClause.2.1 168 = .ok (.invokevirtual 291, 3) := by decide +kernel
theorem d_TrustDeskModel_readClause_171 : decode kY_TrustDeskModel_readClause.2.1 171 = .ok (.aload_n 0, 1) := by decide +kernel
theorem d_TrustDeskModel_readClause_172 : decode kY_TrustDeskModel_readClause.2.1 172 = .ok (.getfield 41, 3) := by decide +kernel
theorem f_TrustDeskModel_41_13 : mj_fl "TrustDeskModel" 41 13 12 := ⟨kR_TrustDeskModel, kF_TrustDeskModel, 72, "TrustDeskModel", rfl, kg_13, by decide, (mj_in1 (List.mem_of_getElem? (i := 1398) (by decide +kernel)) rfl), Or.inl rfl⟩
theorem d_TrustDeskModel_readClause_175 : decode kY_TrustDeskModel_readClause.2.1 175 = .ok (.iload_n 3, 1) := by decide +kernel
theorem d_TrustDeskModel_readClause_176 : decode kY_TrustDeskModel_readClause.2.1 176 = .ok (.aload_n 0, 1) := by decide +kernel
theorem d_TrustDeskModel_readClause_177 : decode kY_TrustDeskModel_readClause.2.1 177 = .ok (.getfield 20, 3) := by decide +kernel
theorem d_TrustDeskModel_readClause_180 : decode kY_TrustDeskModel_readClause.2.1 180 = .ok (.bipush 44, 2) := by decide +kernel
theorem d_TrustDeskModel_readClause_182 : decode kY_TrustDeskModel_readClause.2.1 182 = .ok (.iaload, 1) := by decide +kernel
theorem d_TrustDeskModel_readClause_183 : decode kY_TrustDeskModel_readClause.2.1 183 = .ok (.iastore, 1) := by decide +kernel
theorem d_TrustDeskModel_readClause_184 : decode kY_TrustDeskModel_readClause.2.1 184 = .ok (.return_, 1) := by decide +kernel
theorem d_TrustDeskModel_readClause_100 : decode kY_TrustDeskModel_readClause.2.1 100 = .ok (.bipush 7, 2) := by decide +kernel
theorem d_TrustDeskModel_readClause_102 : decode kY_TrustDeskModel_readClause.2.1 102 = .ok (.goto 5, 3) := by decide +kernel
theorem d_TrustDeskModel_readClause_127 : decode kY_TrustDeskModel_readClause.2.1 127 = .ok (.aload_n 0, 1) := by decide +kernel
theorem d_TrustDeskModel_readClause_128 : decode kY_TrustDeskModel_readClause.2.1 128 = .ok (.iload_n 3, 1) := by decide +kernel
theorem d_TrustDeskModel_readClause_129 : decode kY_TrustDeskModel_readClause.2.1 129 = .ok (.invokevirtual 348, 3) := by decide +kernel
theorem lV_TrustDeskModel_348 : mj_lV "TrustDeskModel" 348 kY_TrustDeskModel_readMarks 1 := ⟨⟨(mj_in1 (List.mem_of_getElem? (i := 1812) (by decide +kernel)) rfl), (mj_in1 (List.mem_of_getElem? (i := 10) (by decide +kernel)) rfl), (mj_in1 (List.mem_of_getElem? (i := 1815) (by decide +kernel)) rfl), by decide, rfl, by decide⟩, (mj_in1 (List.mem_of_getElem? (i := 1814) (by decide +kernel)) rfl), (mj_in (List.mem_append_left _ (List.mem_of_getElem? (i := 109) (by decide +kernel))) rfl)⟩
theorem d_TrustDeskModel_readClause_132 : decode kY_TrustDeskModel_readClause.2.1 132 = .ok (.goto 33, 3) := by decide +kernel
theorem d_TrustDeskModel_readClause_56 : decode kY_TrustDeskModel_readClause.2.1 56 = .ok (.aload_n 0, 1) := by decide +kernel
theorem d_TrustDeskModel_readClause_57 : decode kY_TrustDeskModel_readClause.2.1 57 = .ok (.getfield 321, 3) := by decide +kernel
theorem d_TrustDeskModel_readClause_60 : decode kY_TrustDeskModel_readClause.2.1 60 = .ok (.bipush 6, 2) := by decide +kernel
theorem d_TrustDeskModel_readClause_62 : decode kY_TrustDeskModel_readClause.2.1 62 = .ok (.if_icmp .ne 8, 3) := by decide +kernel
theorem d_TrustDeskModel_readClause_91 : decode kY_TrustDeskModel_readClause.2.1 91 = .ok (.bipush 8, 2) := by decide +kernel
theorem d_TrustDeskModel_readClause_93 : decode kY_TrustDeskModel_readClause.2.1 93 = .ok (.goto 14, 3) := by decide +kernel
theorem d_TrustDeskModel_readClause_115 : decode kY_TrustDeskModel_readClause.2.1 115 = .ok (.aload_n 0, 1) := by decide +kernel
theorem d_TrustDeskModel_readClause_116 : decode kY_TrustDeskModel_readClause.2.1 116 = .ok (.iload_n 3, 1) := by decide +kernel
theorem d_TrustDeskModel_readClause_117 : decode kY_TrustDeskModel_readClause.2.1 117 = .ok (.invokevirtual 345, 3) := by decide +kernel
theorem lV_TrustDeskModel_345 : mj_lV "TrustDeskModel" 345 kY_TrustDeskModel_readEnd 1 := ⟨⟨(mj_in1 (List.mem_of_getElem? (i := 1802) (by decide +kernel)) rfl), (mj_in1 (List.mem_of_getElem? (i := 10) (by decide +kernel)) rfl), (mj_in1 (List.mem_of_getElem? (i := 1805) (by decide +kernel)) rfl), by decide, rfl, by decide⟩, (mj_in1 (List.mem_of_getElem? (i := 1804) (by decide +kernel)) rfl), (mj_in (List.mem_append_left _ (List.mem_of_getElem? (i := 107) (by decide +kernel))) rfl)⟩
theorem d_TrustDeskModel_readClause_120 : decode kY_TrustDeskModel_readClause.2.1 120 = .ok (.goto 45, 3) := by decide +kernel
theorem d_TrustDeskModel_readClause_12 : decode kY_TrustDeskModel_readClause.2.1 12 = .ok (.aload_n 0, 1) := by decide +kernel
theorem d_TrustDeskModel_readClause_13 : decode kY_TrustDeskModel_readClause.2.1 13 = .ok (.ldc_w 338, 3) := by decide +kernel
theorem d_TrustDeskModel_readClause_16 : decode kY_TrustDeskModel_readClause.2.1 16 = .ok (.invokevirtual 244, 3) := by decide +kernel
theorem d_TrustDeskModel_readClause_19 : decode kY_TrustDeskModel_readClause.2.1 19 = .ok (.ifCond .ne 21, 3) := by decide +kernel
theorem d_TrustDeskModel_readClause_22 : decode kY_TrustDeskModel_readClause.2.1 22 = .ok (.aload_n 0, 1) := by decide +kernel
theorem d_TrustDeskModel_readClause_23 : decode kY_TrustDeskModel_readClause.2.1 23 = .ok (.ldc_w 340, 3) := by decide +kernel
theorem d_TrustDeskModel_readClause_26 : decode kY_TrustDeskModel_readClause.2.1 26 = .ok (.invokevirtual 244, 3) := by decide +kernel
def w_TrustDeskModel_isWord_s1_44_x : List Nat := []
theorem tc_TrustDeskModel_isWord_s1_44_x {g : mj_G} {l : Launch} {d : Nat} {T0 : tm_H} {M0 : mj_M} {n0 x9 : Nat} {o0 : Nat} (h_o0 : T0 o0 = some (0, 13, 0)) (yR : rI M0 o0) (I0 : tm_I tm_FT (tm_in w_TrustDeskModel_isWord_s1_44_x) x9 T0 M0 n0 T0 M0 n0) : mj_Met g l kY_TrustDeskModel_isWord (d + 4) [.ref o0, .ref 44] M0 n0 0 0 (tm_Q tm_FT (tm_in w_TrustDeskModel_isWord_s1_44_x) x9 T0 M0 n0 (fun r _ M => ∃ v : Int32, r = some (.int v) ∧ 0 ≤ v.toInt ∧ v.toInt ≤ 1 ∧ rI M o0 ∧ (v.toInt = 1 → rv M0 o0 17 = 3))) := by
  refine mj_enter (by decide) (Nat.le_of_ble_eq_true rfl) ?_
  refine mv_aload_n d_TrustDeskModel_isWord_0 rfl rfl ?_
  obtain ⟨v2, q1⟩ := tm_atI I0 h_o0 (k := 17) rfl
  refine tr_getK q1 d_TrustDeskModel_isWord_1 f_TrustDeskModel_198_13 ?_
  have := tm_rv q1
  refine mv_iconst (v := 3) d_TrustDeskModel_isWord_4 (by decide) ?_
  have := mz_hi v2
  refine mv_icmp_neZ (tgt := 24) (a := v2.toInt) (b := 3) d_TrustDeskModel_isWord_5 (by decide) rfl (by decide) (fun b3 => ?_) (fun b3 => ?_)
  · refine mv_iconst (v := 0) d_TrustDeskModel_isWord_24 (by decide) ?_
    exact mv_iret d_TrustDeskModel_isWord_25 rfl (by decide) ⟨_, I0, _, rfl, by decide, by decide, yR, (fun h => absurd h (by decide))⟩
  · refine mv_aload_n d_TrustDeskModel_isWord_8 rfl rfl ?_
    obtain ⟨v5, q4⟩ := tm_atI I0 h_o0 (k := 15) rfl
    refine tr_getK q4 d_TrustDeskModel_isWord_9 f_TrustDeskModel_192_13 ?_
    have := yR.f (k := 15) q4 rfl
    have := tm_rv q4
    refine mv_aload_n d_TrustDeskModel_isWord_12 rfl rfl ?_
    obtain ⟨v7, q6⟩ := tm_atI I0 h_o0 (k := 16) rfl
    refine tr_getK q6 d_TrustDeskModel_isWord_13 f_TrustDeskModel_195_13 ?_
    have := yR.f (k := 16) q6 rfl
    have := tm_rv q6
    refine mv_isub d_TrustDeskModel_isWord_16 ?_
    refine mv_aload_n d_TrustDeskModel_isWord_17 rfl rfl ?_
    refine mv_slenK (i := 34) (v := 5) d_TrustDeskModel_isWord_18 lV_TrustDeskModel_214 (by decide) rfl (by decide) (Nat.le_of_ble_eq_true rfl) ?_
    have b8 : (v5 - v7 : Int32).toInt = (v5.toInt - v7.toInt) := mz_sub2 rfl rfl (by have := yR.1 15 _ _ rfl; have := yR.1 16 _ _ rfl; have := yR.1 19 _ _ rfl; omega) (by have := yR.1 15 _ _ rfl; have := yR.1 16 _ _ rfl; have := yR.1 19 _ _ rfl; omega)
    have := mz_hi (v5 - v7)
    refine mv_icmp_eqZ (tgt := 26) (a := (v5 - v7).toInt) (b := 5) d_TrustDeskModel_isWord_21 (by decide) rfl (by decide) (fun b9 => ?_) (fun b9 => ?_)
    · refine mv_iconst (v := 0) d_TrustDeskModel_isWord_26 (by decide) ?_
      refine mv_istore_n (lv' := [(2, .int 0), (0, .ref o0), (1, .ref 44)]) d_TrustDeskModel_isWord_27 rfl (by decide) rfl ?_
      have L28_10 : ∀ (k : Nat) (i2_10 : Int32) (T_10 : tm_H) (M_10 : mj_M) (n_10 : Nat), tm_I tm_FT (tm_in w_TrustDeskModel_isWord_s1_44_x) x9 T0 M0 n0 T_10 M_10 n_10 → T_10 o0 = some (0, 13, 0) → 0 ≤ i2_10.toInt → rv M_10 o0 15 = rv M0 o0 15 → rv M_10 o0 16 = rv M0 o0 16 → i2_10.toInt ≤ 2147483646 → (rI M_10 o0) → 2147483647 - i2_10.toInt < (k : Int) → mj_V g l kY_TrustDeskModel_isWord (d + 4) 28 [(2, .int i2_10), (0, .ref o0), (1, .ref 44)] [] M_10 n_10 0 0 (tm_Q tm_FT (tm_in w_TrustDeskModel_isWord_s1_44_x) x9 T0 M0 n0 (fun r _ M => ∃ v : Int32, r = some (.int v) ∧ 0 ≤ v.toInt ∧ v.toInt ≤ 1 ∧ rI M o0 ∧ (v.toInt = 1 → rv M0 o0 17 = 3))) := by
        intro k10
        induction k10 with
        | zero =>
          intro i2_10 T_10 M_10 n_10 I_10 h_q0_10 iv0_10 iv1_10 iv2_10 iv3_10 kKR_10 hk10
          have := mz_hi i2_10
          have := kKR_10.1 15 _ _ rfl
          have := kKR_10.1 16 _ _ rfl
          have := kKR_10.1 19 _ _ rfl
          omega
        | succ k10 ih10 =>
          intro i2_10 T_10 M_10 n_10 I_10 h_q0_10 iv0_10 iv1_10 iv2_10 iv3_10 kKR_10 hk10
          refine mv_iload_n d_TrustDeskModel_isWord_28 rfl rfl ?_
          refine mv_aload_n d_TrustDeskModel_isWord_29 rfl rfl ?_
          refine mv_slenK (i := 34) (v := 5) d_TrustDeskModel_isWord_30 lV_TrustDeskModel_214 (by decide) rfl (by decide) (Nat.le_of_ble_eq_true rfl) ?_
          have := mz_hi i2_10
          refine mv_icmp_geZ (tgt := 63) (a := i2_10.toInt) (b := 5) d_TrustDeskModel_isWord_33 (by decide) rfl (by decide) (fun b11 => ?_) (fun b11 => ?_)
          · refine mv_iconst (v := 1) d_TrustDeskModel_isWord_63 (by decide) ?_
            exact mv_iret d_TrustDeskModel_isWord_64 rfl (by decide) ⟨_, I_10, _, rfl, by decide, by decide, kKR_10, (fun _ => by omega)⟩
          · refine mv_aload_n d_TrustDeskModel_isWord_36 rfl rfl ?_
            obtain ⟨a13, q12, t_a13⟩ := tm_atR I_10 h_q0_10 (k := 13) rfl
            refine tr_getK q12 d_TrustDeskModel_isWord_37 f_TrustDeskModel_44_13 ?_
            refine mv_aload_n d_TrustDeskModel_isWord_40 rfl rfl ?_
            obtain ⟨v15, q14⟩ := tm_atI I_10 h_q0_10 (k := 16) rfl
            refine tr_getK q14 d_TrustDeskModel_isWord_41 f_TrustDeskModel_195_13 ?_
            have := kKR_10.f (k := 16) q14 rfl
            have := tm_rv q14
            refine mv_iload_n d_TrustDeskModel_isWord_44 rfl rfl ?_
            refine mv_iadd d_TrustDeskModel_isWord_45 ?_
            have b16 : (v15 + i2_10 : Int32).toInt = (v15.toInt + i2_10.toInt) := mz_add2 rfl rfl (by have := kKR_10.1 15 _ _ rfl; have := kKR_10.1 16 _ _ rfl; have := kKR_10.1 19 _ _ rfl; omega) (by have := kKR_10.1 15 _ _ rfl; have := kKR_10.1 16 _ _ rfl; have := kKR_10.1 19 _ _ rfl; omega)
            refine tr_baldR (o := o0) (k := 13) I_10 q12 t_a13 (by decide) d_TrustDeskModel_isWord_46 (vp_in_iff.mpr (by have := kKR_10.1 15 _ _ rfl; have := kKR_10.1 16 _ _ rfl; have := kKR_10.1 19 _ _ rfl; omega)) (fun v17 e18 => ?_)
            have := kKR_10.a (k := 13) rfl ((v15 + i2_10) : Int32).toNatClampNeg
            refine mv_aload_n d_TrustDeskModel_isWord_47 rfl rfl ?_
            refine mv_iload_n d_TrustDeskModel_isWord_48 rfl rfl ?_
            refine mv_schN (i := 34) (N := 5) d_TrustDeskModel_isWord_49 lV_TrustDeskModel_220 (by decide) rfl rfl (by omega) (by omega) (Nat.le_of_ble_eq_true rfl) (fun v19 => ?_)
            have := mz_hi v17
            have := mz_hi v19
            refine mv_icmp_eqZ (tgt := 57) (a := v17.toInt) (b := v19.toInt) d_TrustDeskModel_isWord_52 (by decide) rfl rfl (fun b20 => ?_) (fun b20 => ?_)
            · refine mv_iinc (v := (i2_10 + 1)) (lv' := [(2, .int (i2_10 + 1)), (0, .ref o0), (1, .ref 44)]) d_TrustDeskModel_isWord_57 rfl rfl (by decide) rfl ?_
              refine mv_goto (tgt := 28) d_TrustDeskModel_isWord_60 (by decide) ?_
              have b21 : (i2_10 + 1).toInt = i2_10.toInt + 1 := mz_addn 1 1 (by decide) (by have := mz_lo i2_10; omega) (by have := mz_hi i2_10; omega)
              exact (ih10 (i2_10 + 1) T_10 M_10 n_10 I_10 h_q0_10 (by have := kKR_10.1 15 _ _ rfl; have := kKR_10.1 16 _ _ rfl; have := kKR_10.1 19 _ _ rfl; first | omega | decide | exact fun h9 => absurd (by decide) h9) (by have := kKR_10.1 15 _ _ rfl; have := kKR_10.1 16 _ _ rfl; have := kKR_10.1 19 _ _ rfl; first | omega | decide | exact fun h9 => absurd (by decide) h9) (by have := kKR_10.1 15 _ _ rfl; have := kKR_10.1 16 _ _ rfl; have := kKR_10.1 19 _ _ rfl; first | omega | decide | exact fun h9 => absurd (by decide) h9) (by have := kKR_10.1 15 _ _ rfl; have := kKR_10.1 16 _ _ rfl; have := kKR_10.1 19 _ _ rfl; first | omega | decide | exact fun h9 => absurd (by decide) h9) kKR_10 (by have := kKR_10.1 15 _ _ rfl; have := kKR_10.1 16 _ _ rfl; have := kKR_10.1 19 _ _ rfl; omega))
            · refine mv_iconst (v := 0) d_TrustDeskModel_isWord_55 (by decide) ?_
              exact mv_iret d_TrustDeskModel_isWord_56 rfl (by decide) ⟨_, I_10, _, rfl, by decide, by decide, kKR_10, (fun h => absurd h (by decide))⟩
      exact mv_less (Nat.zero_le _) (Nat.zero_le _) (L28_10 4294967296 0 T0 M0 n0 I0 h_o0 (by have := yR.1 15 _ _ rfl; have := yR.1 16 _ _ rfl; have := yR.1 19 _ _ rfl; first | omega | decide | exact fun h9 => absurd (by decide) h9) (by have := yR.1 15 _ _ rfl; have := yR.1 16 _ _ rfl; have := yR.1 19 _ _ rfl; first | omega | decide | exact fun h9 => absurd (by decide) h9) (by have := yR.1 15 _ _ rfl; have := yR.1 16 _ _ rfl; have := yR.1 19 _ _ rfl; first | omega | decide | exact fun h9 => absurd (by decide) h9) (by have := yR.1 15 _ _ rfl; have := yR.1 16 _ _ rfl; have := yR.1 19 _ _ rfl; first | omega | decide | exact fun h9 => absurd (by decide) h9) yR (by show (2147483647 - (0 : Int) : Int) < _; decide))
    · refine mv_iconst (v := 0) d_TrustDeskModel_isWord_24 (by decide) ?_
      exact mv_iret d_TrustDeskModel_isWord_25 rfl (by decide) ⟨_, I0, _, rfl, by decide, by decide, yR, (fun h => absurd h (by decide))⟩
theorem d_TrustDeskModel_readClause_29 : decode kY_TrustDeskModel_readClause.2.1 29 = .ok (.ifCond .ne 11, 3) := by decide +kernel
theorem d_TrustDeskModel_readClause_32 : decode kY_TrustDeskModel_readClause.2.1 32 = .ok (.aload_n 0, 1) := by decide +kernel
theorem d_TrustDeskModel_readClause_33 : decode kY_TrustDeskModel_readClause.2.1 33 = .ok (.iconst 1, 1) := by decide +kernel
theorem d_TrustDeskModel_readClause_34 : decode kY_TrustDeskModel_readClause.2.1 34 = .ok (.invokevirtual 240, 3) := by decide +kernel
theorem d_TrustDeskModel_readClause_37 : decode kY_TrustDeskModel_readClause.2.1 37 = .ok (.goto 33, 3) := by decide +kernel
def w_TrustDeskModel_readClause_x : List Nat := [1315, 1316, 1317, 1318, 1319, 1320, 1322, 1324, 20004, 20005, 20006, 20007, 20008, 20009, 20010, 20011, 20012, 20025, 20026]
set_option maxHeartbeats 100000000 in theorem tc_TrustDeskModel_readClause_x {g : mj_G} {l : Launch} {d : Nat} {T0 : tm_H} {M0 : mj_M} {n0 x9 : Nat} {o0 : Nat} (h_o0 : T0 o0 = some (0, 13, 0)) (yR : rI M0 o0) (yWW : rW M0 o0) (yw : rv M0 o0 19 = 0) (yo : rv M0 o0 17 ≠ 0) (yq : rv M0 o0 22 = 0) (I0 : tm_I tm_FT (tm_in w_TrustDeskModel_readClause_x) x9 T0 M0 n0 T0 M0 n0) : mj_Met g l kY_TrustDeskModel_readClause (d + 26) [.ref o0] M0 n0 0 0 (tm_Q tm_FT (tm_in w_TrustDeskModel_readClause_x) x9 T0 M0 n0 (fun r _ M => r = none ∧ rI M o0 ∧ (rW M o0) ∧ (rO M0 M o0) ∧ (rv M0 o0 16 ≤ rv M o0 16 ∧ (rv M o0 19 = 0 → rv M0 o0 16 < rv M o0 16)) ∧ (rv M o0 19 = 0 → rv M o0 22 = 0) ∧ (rwE M0 o0 → rv M o0 19 = 0 → ra M o0 7 (880 + ra M0 o0 6 44).toNat = 8 ∧ ra M o0 6 44 = ra M0 o0 6 44 + 1))) := by
  refine mj_enter (by decide) (Nat.le_of_ble_eq_true rfl) ?_
  have yT := yWW.1
  have yS : rv M0 o0 19 = 0 → ra M0 o0 5 44 ≤ rv M0 o0 16 := fun h9 => (yWW.2 h9).1
  have yG := (yWW.2 yw).2
  have yN := yG.2.2
  have := yR.2 6 _ _ rfl 44
  have yE0 := rE.rf yT
  have K1 : rK M0 M0 o0 ((880 + ra M0 o0 6 44).toNat) := rK.rf
  have K2 : nN M0 o0 := yN
  refine mv_aload_n d_TrustDeskModel_readClause_0 rfl rfl ?_
  refine mv_ldcSw (id := 42) (tx := "end") d_TrustDeskModel_readClause_1 (List.mem_of_getElem? (i := 32) rfl) ?_
  obtain ⟨_, b9, -⟩ := I0.1 _ _ h_o0
  refine mv_callV (kc' := 0) (ks' := 0) (As := [.ref 42]) (st9 := [.ref 42, .ref o0]) d_TrustDeskModel_readClause_4 lV_TrustDeskModel_244 b9 rfl (tc_TrustDeskModel_isWord_s1_42_x (d := (d + 21)) (x9 := x9) (o0 := o0) h_o0 yR I0.start) rfl (Nat.le_of_ble_eq_true rfl) (Nat.le_of_ble_eq_true rfl) (Nat.le_of_ble_eq_true rfl) (hst := rfl) (fun b3r M4 n5 b3 => ?_)
  obtain ⟨T6, J7, v10, rfl, b11, b12, R13, f14, f15, f16⟩ := b3
  have I8 := I0.call J7 (tm_sub (by decide)) (Or.inl rfl)
  have t17 := J7.up h_o0
  have z18 := (rv_c I0 J7 (I0.up h_o0) (k := 15) rfl)
  have z19 := (rv_c I0 J7 (I0.up h_o0) (k := 16) rfl)
  have z20 := (rv_c I0 J7 (I0.up h_o0) (k := 17) rfl)
  have z21 := (rv_c I0 J7 (I0.up h_o0) (k := 19) rfl)
  have z22 := (rv_c I0 J7 (I0.up h_o0) (k := 22) rfl)
  have z23 := (rv_c I0 J7 (I0.up h_o0) (k := 24) rfl)
  have z24 := (ra_call I0 J7 (I0.up h_o0) (k := 5) rfl rfl rfl 44)
  have z25 := (ra_call I0 J7 (I0.up h_o0) (k := 6) rfl rfl rfl 44)
  have E26 : rE M0 M4 o0 0 0 := yE0.same (rE_hv I0 J7 (I0.up h_o0) 15 19 (by decide)) (rE_ha I0 J7 (I0.up h_o0) (by decide))
  have K27 : rK M0 M4 o0 ((880 + ra M0 o0 6 44).toNat) := K1.same (sA_c I0 J7 (I0.up h_o0) (by decide))
  have K28 : nN M4 o0 := K2.same (sA_c I0 J7 (I0.up h_o0) (by decide)) (sF_c I0 J7 (I0.up h_o0) (by decide))
  refine mv_istore_n (lv' := [(1, .int v10), (0, .ref o0)]) d_TrustDeskModel_readClause_7 rfl (by decide) rfl ?_
  refine mv_iload_n d_TrustDeskModel_readClause_8 rfl rfl ?_
  have := mz_hi v10
  refine mv_if_neZ (tgt := 40) (a := v10.toInt) d_TrustDeskModel_readClause_9 (by decide) rfl (fun b29 => ?_) (fun b29 => ?_)
  · refine mv_aload_n d_TrustDeskModel_readClause_40 rfl rfl ?_
    obtain ⟨a31, q30, t_a31⟩ := tm_atR I8 t17 (k := 6) rfl
    refine tr_getK q30 d_TrustDeskModel_readClause_41 f_TrustDeskModel_23_13 ?_
    refine mv_bipush (v := 44) d_TrustDeskModel_readClause_44 (by decide) ?_
    refine tr_ialdR (o := o0) (k := 6) I8 q30 t_a31 (by decide) d_TrustDeskModel_readClause_46 (by unfold vp_in; decide) (fun v32 e33 => ?_)
    have := R13.a (k := 6) rfl (44 : Int32).toNatClampNeg
    have : v32.toInt = ra M4 o0 6 44 := e33
    have : v32.toInt = _ := Eq.trans e33 z25
    refine mv_bipush (v := 12) d_TrustDeskModel_readClause_47 (by decide) ?_
    have := mz_hi v32
    refine mv_icmp_eqZ (tgt := 65) (a := v32.toInt) (b := 12) d_TrustDeskModel_readClause_49 (by decide) rfl (by decide) (fun b34 => ?_) (fun b34 => ?_)
    · refine mv_aload_n d_TrustDeskModel_readClause_65 rfl rfl ?_
      refine mv_iconst (v := 4) d_TrustDeskModel_readClause_66 (by decide) ?_
      obtain ⟨_, b41, -⟩ := I8.1 _ _ t17
      have : (4 : Int32).toInt = 4 := by decide
      refine mv_callV (kc' := 0) (ks' := 0) (As := [.int 4]) (st9 := [.int 4, .ref o0]) d_TrustDeskModel_readClause_67 lV_TrustDeskModel_240 b41 rfl (tc_TrustDeskModel_fails_x (d := (d + 25)) (x9 := x9) (o0 := o0) (x1 := 4) t17 R13 (by decide) I8.start) rfl (Nat.le_of_ble_eq_true rfl) (Nat.le_of_ble_eq_true rfl) (Nat.le_of_ble_eq_true rfl) (hst := rfl) (fun b35r M36 n37 b35 => ?_)
      obtain ⟨T38, J39, rfl, R42, f43⟩ := b35
      have I40 := I8.call J39 (tm_sub (by decide)) (Or.inl rfl)
      have t44 := J39.up t17
      have z45 := (rv_c I8 J39 (I8.up h_o0) (k := 15) rfl).trans z18
      have z46 := (rv_c I8 J39 (I8.up h_o0) (k := 16) rfl).trans z19
      have z47 := (rv_c I8 J39 (I8.up h_o0) (k := 17) rfl).trans z20
      have z48 := (rv_c I8 J39 (I8.up h_o0) (k := 22) rfl).trans z22
      have z49 := (rv_c I8 J39 (I8.up h_o0) (k := 24) rfl).trans z23
      have z50 := (ra_call I8 J39 (I8.up h_o0) (k := 5) rfl rfl rfl 44).trans z24
      have z51 := (ra_call I8 J39 (I8.up h_o0) (k := 6) rfl rfl rfl 44).trans z25
      have E52 : rE M0 M36 o0 0 0 := E26.fails (rE_hv I8 J39 (I8.up h_o0) 15 18 (by decide)) (rE_ha I8 J39 (I8.up h_o0) (by decide)) f43 0 0
      have K53 : rK M0 M36 o0 ((880 + ra M0 o0 6 44).toNat) := K27.same (sA_c I8 J39 (I8.up h_o0) (by decide))
      have K54 : nN M36 o0 := K28.same (sA_c I8 J39 (I8.up h_o0) (by decide)) (sF_c I8 J39 (I8.up h_o0) (by decide))
      clear z18 z19 z20 z22 z23 z24 z25
      have q55 := J39.keep t17 (by decide) q30
      have t56 := J39.up t_a31
      refine mv_aload_n d_TrustDeskModel_readClause_70 rfl rfl ?_
      obtain ⟨_, b57, -⟩ := I40.1 _ _ t44
      refine mv_callV (kc1 := 0) (ks1 := 0) (kc' := 0) (ks' := 0) (As := []) (st9 := [.ref o0]) d_TrustDeskModel_readClause_71 lV_TrustDeskModel_230 b57 rfl (mj_enter (by decide) (Nat.le_of_ble_eq_true rfl) ?_) rfl (Nat.le_of_ble_eq_true rfl) (Nat.le_of_ble_eq_true rfl) (Nat.le_of_ble_eq_true rfl) (hst := rfl) (fun _ _ _ h => h)
      refine mv_aload_n d_TrustDeskModel_isWell_0 rfl rfl ?_
      obtain ⟨v59, q58⟩ := tm_atI I40 t44 (k := 19) rfl
      refine tr_getK q58 d_TrustDeskModel_isWell_1 f_TrustDeskModel_224_13 ?_
      have := R42.f (k := 19) q58 rfl
      have := tm_rv q58
      refine mv_if_neZ (tgt := 11) (a := v59.toInt) d_TrustDeskModel_isWell_4 (by decide) rfl (fun b60 => ?_) (fun b60 => ?_)
      · refine mv_iconst (v := 0) d_TrustDeskModel_isWell_11 (by decide) ?_
        refine mv_iret d_TrustDeskModel_isWell_12 rfl (by decide) ?_
        refine mv_if_ne_f (tgt := 78) d_TrustDeskModel_readClause_74 (by decide) (by decide) ?_
        exact mv_vret d_TrustDeskModel_readClause_77 rfl ⟨_, I40, rfl, R42, (rW.of E52.1 (fun h9 => absurd h9 (by have := R42.1 15 _ _ rfl; have := R42.1 16 _ _ rfl; have := R42.1 19 _ _ rfl; have := E52.f yS; omega)) (fun h9 => absurd h9 (by have := R42.1 15 _ _ rfl; have := R42.1 16 _ _ rfl; have := R42.1 19 _ _ rfl; have := E52.f yS; omega))), (rO.of E52 K53 (by have := yR.2 6 _ _ rfl 44; omega)), (by have := R42.1 15 _ _ rfl; have := R42.1 16 _ _ rfl; have := R42.1 19 _ _ rfl; have := E52.f yS; omega), (by have := R42.1 15 _ _ rfl; have := R42.1 16 _ _ rfl; have := R42.1 19 _ _ rfl; have := E52.f yS; omega), (fun _ h9 => absurd h9 (by have := R42.1 15 _ _ rfl; have := R42.1 16 _ _ rfl; have := R42.1 19 _ _ rfl; have := E52.f yS; omega))⟩
      · exfalso
        have := R42.1 15 _ _ rfl; have := R42.1 16 _ _ rfl; have := R42.1 19 _ _ rfl; have := E52.f yS; omega
    · refine mv_iload_n d_TrustDeskModel_readClause_52 rfl rfl ?_
      have := mz_hi v10
      refine mv_if_eqZ (tgt := 70) (a := v10.toInt) d_TrustDeskModel_readClause_53 (by decide) rfl (fun b61 => ?_) (fun b61 => ?_)
      · refine mv_aload_n d_TrustDeskModel_readClause_70 rfl rfl ?_
        obtain ⟨_, b62, -⟩ := I8.1 _ _ t17
        refine mv_callV (kc1 := 0) (ks1 := 0) (kc' := 0) (ks' := 0) (As := []) (st9 := [.ref o0]) d_TrustDeskModel_readClause_71 lV_TrustDeskModel_230 b62 rfl (mj_enter (by decide) (Nat.le_of_ble_eq_true rfl) ?_) rfl (Nat.le_of_ble_eq_true rfl) (Nat.le_of_ble_eq_true rfl) (Nat.le_of_ble_eq_true rfl) (hst := rfl) (fun _ _ _ h => h)
        refine mv_aload_n d_TrustDeskModel_isWell_0 rfl rfl ?_
        obtain ⟨v64, q63⟩ := tm_atI I8 t17 (k := 19) rfl
        refine tr_getK q63 d_TrustDeskModel_isWell_1 f_TrustDeskModel_224_13 ?_
        have := R13.f (k := 19) q63 rfl
        have := (tm_rv q63).symm.trans z21
        have := tm_rv q63
        have := mz_hi v64
        refine mv_if_neZ (tgt := 11) (a := v64.toInt) d_TrustDeskModel_isWell_4 (by decide) rfl (fun b65 => ?_) (fun b65 => ?_)
        · refine mv_iconst (v := 0) d_TrustDeskModel_isWell_11 (by decide) ?_
          refine mv_iret d_TrustDeskModel_isWell_12 rfl (by decide) ?_
          refine mv_if_ne_f (tgt := 78) d_TrustDeskModel_readClause_74 (by decide) (by decide) ?_
          exact mv_vret d_TrustDeskModel_readClause_77 rfl ⟨_, I8, rfl, R13, (rW.of E26.1 (fun w9 => (by have := R13.1 15 _ _ rfl; have := R13.1 16 _ _ rfl; have := R13.1 19 _ _ rfl; have := E26.f yS; omega)) (fun w9 => rG.step yG yR E26 w9 K27 (by have := yR.2 6 _ _ rfl 44; omega) (by have := R13.1 15 _ _ rfl; have := R13.1 16 _ _ rfl; have := R13.1 19 _ _ rfl; have := E26.f yS; omega) (by have := R13.1 15 _ _ rfl; have := R13.1 16 _ _ rfl; have := R13.1 19 _ _ rfl; have := E26.f yS; omega) (fun h9 => by exfalso; have := R13.1 15 _ _ rfl; have := R13.1 16 _ _ rfl; have := R13.1 19 _ _ rfl; have := E26.f yS; omega) (fun h9 => (by have := R13.1 15 _ _ rfl; have := R13.1 16 _ _ rfl; have := R13.1 19 _ _ rfl; have := E26.f yS; omega)) (by have := R13.1 15 _ _ rfl; have := R13.1 16 _ _ rfl; have := R13.1 19 _ _ rfl; have := E26.f yS; omega) K28)), (rO.of E26 K27 (by have := yR.2 6 _ _ rfl 44; omega)), (by have := R13.1 15 _ _ rfl; have := R13.1 16 _ _ rfl; have := R13.1 19 _ _ rfl; have := E26.f yS; omega), (by have := R13.1 15 _ _ rfl; have := R13.1 16 _ _ rfl; have := R13.1 19 _ _ rfl; have := E26.f yS; omega), (fun h9 _ => absurd h9 (f16 (by have := R13.1 15 _ _ rfl; have := R13.1 16 _ _ rfl; have := R13.1 19 _ _ rfl; have := E26.f yS; omega)))⟩
        · refine mv_iconst (v := 1) d_TrustDeskModel_isWell_7 (by decide) ?_
          refine mv_goto (tgt := 12) d_TrustDeskModel_isWell_8 (by decide) ?_
          refine mv_iret d_TrustDeskModel_isWell_12 rfl (by decide) ?_
          refine mv_if_ne_t (tgt := 78) d_TrustDeskModel_readClause_74 (by decide) (by decide) ?_
          refine mv_aload_n d_TrustDeskModel_readClause_78 rfl rfl ?_
          refine mv_ldcSw (id := 43) (tx := "mark") d_TrustDeskModel_readClause_79 (List.mem_of_getElem? (i := 33) rfl) ?_
          obtain ⟨_, b72, -⟩ := I8.1 _ _ t17
          refine mv_callV (kc' := 0) (ks' := 0) (As := [.ref 43]) (st9 := [.ref 43, .ref o0]) d_TrustDeskModel_readClause_82 lV_TrustDeskModel_244 b72 rfl (tc_TrustDeskModel_isWord_s1_43_x (d := (d + 21)) (x9 := x9) (o0 := o0) t17 R13 I8.start) rfl (Nat.le_of_ble_eq_true rfl) (Nat.le_of_ble_eq_true rfl) (Nat.le_of_ble_eq_true rfl) (hst := rfl) (fun b66r M67 n68 b66 => ?_)
          obtain ⟨T69, J70, v73, rfl, b74, b75, R76, f77⟩ := b66
          have I71 := I8.call J70 (tm_sub (by decide)) (Or.inl rfl)
          have t78 := J70.up t17
          have z79 := (rv_c I8 J70 (I8.up h_o0) (k := 15) rfl).trans z18
          have z80 := (rv_c I8 J70 (I8.up h_o0) (k := 16) rfl).trans z19
          have z81 := (rv_c I8 J70 (I8.up h_o0) (k := 17) rfl).trans z20
          have z82 := (rv_c I8 J70 (I8.up h_o0) (k := 19) rfl).trans z21
          have z83 := (rv_c I8 J70 (I8.up h_o0) (k := 22) rfl).trans z22
          have z84 := (rv_c I8 J70 (I8.up h_o0) (k := 24) rfl).trans z23
          have z85 := (ra_call I8 J70 (I8.up h_o0) (k := 5) rfl rfl rfl 44).trans z24
          have z86 := (ra_call I8 J70 (I8.up h_o0) (k := 6) rfl rfl rfl 44).trans z25
          have E87 : rE M0 M67 o0 0 0 := E26.same (rE_hv I8 J70 (I8.up h_o0) 15 19 (by decide)) (rE_ha I8 J70 (I8.up h_o0) (by decide))
          have K88 : rK M0 M67 o0 ((880 + ra M0 o0 6 44).toNat) := K27.same (sA_c I8 J70 (I8.up h_o0) (by decide))
          have K89 : nN M67 o0 := K28.same (sA_c I8 J70 (I8.up h_o0) (by decide)) (sF_c I8 J70 (I8.up h_o0) (by decide))
          clear z18 z19 z21 z22 z23 z24 z25
          have q90 := J70.keep t17 (by decide) q30
          have t91 := J70.up t_a31
          have q92 := J70.keep t17 (by decide) q63
          refine mv_istore_n (lv' := [(2, .int v73), (1, .int v10), (0, .ref o0)]) d_TrustDeskModel_readClause_85 rfl (by decide) rfl ?_
          refine mv_aload_n d_TrustDeskModel_readClause_86 rfl rfl ?_
          refine mv_iload_n d_TrustDeskModel_readClause_87 rfl rfl ?_
          have := mz_hi v10
          refine mv_if_eqZ (tgt := 96) (a := v10.toInt) d_TrustDeskModel_readClause_88 (by decide) rfl (fun b93 => ?_) (fun b93 => absurd b93 (by omega))
          refine mv_iload_n d_TrustDeskModel_readClause_96 rfl rfl ?_
          have := mz_hi v73
          refine mv_if_eqZ (tgt := 105) (a := v73.toInt) d_TrustDeskModel_readClause_97 (by decide) rfl (fun b94 => ?_) (fun b94 => ?_)
          · refine mv_bipush (v := 9) d_TrustDeskModel_readClause_105 (by decide) ?_
            obtain ⟨_, b101, -⟩ := I71.1 _ _ t78
            have : (9 : Int32).toInt = 9 := by decide
            refine mv_callV (kc' := 0) (ks' := 0) (As := [.int 9]) (st9 := [.int 9, .ref o0]) d_TrustDeskModel_readClause_107 lV_TrustDeskModel_342 b101 rfl (tc_TrustDeskModel_begin_x (d := (d + 23)) (x9 := x9) (o0 := o0) (x1 := 9) t78 R76 E87.1 (by have := R76.1 15 _ _ rfl; have := R76.1 16 _ _ rfl; have := R76.1 19 _ _ rfl; have := E87.f yS; omega) (by have := R76.1 15 _ _ rfl; have := R76.1 16 _ _ rfl; have := R76.1 19 _ _ rfl; have := E87.f yS; omega) (by have := R76.1 15 _ _ rfl; have := R76.1 16 _ _ rfl; have := R76.1 19 _ _ rfl; have := E87.f yS; omega) (by have := R76.1 15 _ _ rfl; have := R76.1 16 _ _ rfl; have := R76.1 19 _ _ rfl; have := E87.f yS; omega) I71.start) rfl (Nat.le_of_ble_eq_true rfl) (Nat.le_of_ble_eq_true rfl) (Nat.le_of_ble_eq_true rfl) (hst := rfl) (fun b95r M96 n97 b95 => ?_)
            obtain ⟨T98, J99, v102, rfl, R103, f104, f105, f106, f107, f108, f109⟩ := b95
            have I100 := I71.call J99 (tm_sub (by decide)) (Or.inl rfl)
            have t110 := J99.up t78
            have z111 := (rv_c I71 J99 (I71.up h_o0) (k := 19) rfl).trans z82
            have z112 := (rv_c I71 J99 (I71.up h_o0) (k := 22) rfl).trans z83
            have z113 := (rv_c I71 J99 (I71.up h_o0) (k := 24) rfl).trans z84
            have z114 := (ra_call I71 J99 (I71.up h_o0) (k := 5) rfl rfl rfl 44).trans z85
            have E115 : rE M0 M96 o0 0 1 := E87.trans f104 (by decide) (yR.2 5 _ _ rfl 44).1 (by decide) (by decide)
            have := f104.w
            have := f104.w2
            have h116 : (880 + ra M67 o0 6 44).toNat = (880 + ra M0 o0 6 44).toNat := by omega
            rw [h116] at f107 f108 f109
            have K117 : rK M0 M96 o0 ((880 + ra M0 o0 6 44).toNat) := K88.trans f109
            have K118 : nN M96 o0 := K89.same (sA_c I71 J99 (I71.up h_o0) (by decide)) (sF_c I71 J99 (I71.up h_o0) (by decide))
            clear z82 z83 z84
            have q119 := J99.keep t78 (by decide) q90
            have t120 := J99.up t91
            have q121 := J99.keep t78 (by decide) q92
            refine mv_istore_n (lv' := [(3, .int v102), (2, .int v73), (1, .int v10), (0, .ref o0)]) d_TrustDeskModel_readClause_110 rfl (by decide) rfl ?_
            refine mv_iload_n d_TrustDeskModel_readClause_111 rfl rfl ?_
            have := mz_hi v10
            refine mv_if_eqZ (tgt := 123) (a := v10.toInt) d_TrustDeskModel_readClause_112 (by decide) rfl (fun b122 => ?_) (fun b122 => absurd b122 (by omega))
            refine mv_iload_n d_TrustDeskModel_readClause_123 rfl rfl ?_
            have := mz_hi v73
            refine mv_if_eqZ (tgt := 135) (a := v73.toInt) d_TrustDeskModel_readClause_124 (by decide) rfl (fun b123 => ?_) (fun b123 => absurd b123 (by omega))
            refine mv_aload_n d_TrustDeskModel_readClause_135 rfl rfl ?_
            obtain ⟨a125, q124, t_a125⟩ := tm_atR I100 t110 (k := 8) rfl
            refine tr_getK q124 d_TrustDeskModel_readClause_136 f_TrustDeskModel_29_13 ?_
            refine mv_iload_n d_TrustDeskModel_readClause_139 rfl rfl ?_
            refine mv_aload_n d_TrustDeskModel_readClause_140 rfl rfl ?_
            refine mv_iconst (v := 1) d_TrustDeskModel_readClause_141 (by decide) ?_
            refine mv_bipush (v := 7) d_TrustDeskModel_readClause_142 (by decide) ?_
            obtain ⟨_, b132, -⟩ := I100.1 _ _ t110
            have : (1 : Int32).toInt = 1 := by decide
            have : (7 : Int32).toInt = 7 := by decide
            refine mv_callV (kc' := 0) (ks' := 0) (As := [.int 1, .int 7]) (st9 := [.int 7, .int 1, .ref o0, .int v102, .ref a125]) d_TrustDeskModel_readClause_144 lV_TrustDeskModel_317 b132 rfl (tc_TrustDeskModel_number_x (d := (d + 23)) (x9 := x9) (o0 := o0) (x1 := 1) (x2 := 7) t110 R103 E115.1 (by have := R103.1 15 _ _ rfl; have := R103.1 16 _ _ rfl; have := R103.1 19 _ _ rfl; have := E115.f yS; omega) I100.start) rfl (Nat.le_of_ble_eq_true rfl) (Nat.le_of_ble_eq_true rfl) (Nat.le_of_ble_eq_true rfl) (hst := rfl) (fun b126r M127 n128 b126 => ?_)
            obtain ⟨T129, J130, v133, rfl, R134, f135, f136⟩ := b126
            have I131 := I100.call J130 (tm_sub (by decide)) (Or.inl rfl)
            have t137 := J130.up t110
            have t138 := J130.up t_a125
            have z139 := (rv_c I100 J130 (I100.up h_o0) (k := 22) rfl).trans z112
            have z140 := (rv_c I100 J130 (I100.up h_o0) (k := 24) rfl).trans z113
            have z141 := (ra_call I100 J130 (I100.up h_o0) (k := 5) rfl rfl rfl 44).trans z114
            have z142 := (ra_call I100 J130 (I100.up h_o0) (k := 6) rfl rfl rfl 44)
            have z143 := (ra_call I100 J130 (I100.up h_o0) (k := 7) rfl rfl rfl ((880 + ra M0 o0 6 44).toNat))
            have z144 := (ra_call I100 J130 (I100.up h_o0) (k := 10) rfl rfl rfl ((880 + ra M0 o0 6 44).toNat))
            have E145 : rE M0 M127 o0 0 2 := E115.trans f135 (by decide) (yR.2 5 _ _ rfl 44).1 (by decide) (by decide)
            have := f135.w
            have := f135.w2
            have K146 : rK M0 M127 o0 ((880 + ra M0 o0 6 44).toNat) := K117.same (sA_c I100 J130 (I100.up h_o0) (by decide))
            have K147 : nN M127 o0 := K118.same (sA_c I100 J130 (I100.up h_o0) (by decide)) (sF_c I100 J130 (I100.up h_o0) (by decide))
            clear z112 z113 z114
            have q148 := J130.keep t110 (by decide) q119
            have t149 := J130.up t120
            have q150 := J130.keep t110 (by decide) q124
            refine tr_iastR (k := 8) I131 R134 (I131.up h_o0) q150 t138 (by decide) (by decide) (fun lo hi h => by cases h; have := R134.1 15 _ _ rfl; have := R134.1 16 _ _ rfl; have := R134.1 19 _ _ rfl; have := E145.f yS; exact ⟨by show ((-1) : Int) ≤ v133.toInt; omega, by show v133.toInt ≤ (720 : Int); omega⟩) (Or.inl (by decide)) d_TrustDeskModel_readClause_147 (vp_in_iff.mpr (by have := R134.1 15 _ _ rfl; have := R134.1 16 _ _ rfl; have := R134.1 19 _ _ rfl; have := E145.f yS; omega)) (fun M151 I152 K153 R154 E155 A156 V157 => ?_)
            have z158 := (V157 15)
            have z159 := (V157 16)
            have z160 := (V157 17)
            have z161 := (V157 19)
            have z162 := (V157 22).trans z139
            have z163 := (V157 24).trans z140
            have z164 := (A156 5 (by decide) rfl 44).trans z141
            have z165 := (A156 6 (by decide) rfl 44).trans z142
            have z166 := (A156 7 (by decide) rfl ((880 + ra M0 o0 6 44).toNat)).trans z143
            have z167 := (A156 10 (by decide) rfl ((880 + ra M0 o0 6 44).toNat)).trans z144
            have E168 : rE M0 M151 o0 0 2 := E145.same (fun k _ _ => V157 k) (fun k h1 h2 => A156 k (by omega) (by rcases (show k = 4 ∨ k = 5 by omega) with rfl | rfl <;> rfl))
            have h169 : (880 + ra M0 o0 6 44).toNat = v102.toNatClampNeg := by have := mz_nat9 (i := v102) (by have := R134.1 15 _ _ rfl; have := R134.1 16 _ _ rfl; have := R134.1 19 _ _ rfl; have := E145.f yS; omega); have := R134.1 15 _ _ rfl; have := R134.1 16 _ _ rfl; have := R134.1 19 _ _ rfl; have := E145.f yS; omega
            have z170 : ra M151 o0 8 ((880 + ra M0 o0 6 44).toNat) = v133.toInt := (E155 _).trans (if_pos h169)
            have K171 : rK M0 M151 o0 ((880 + ra M0 o0 6 44).toNat) := K146.st A156 E155 (by have := mz_nat9 (i := v102) (by have := R134.1 15 _ _ rfl; have := R134.1 16 _ _ rfl; have := R134.1 19 _ _ rfl; have := E145.f yS; omega); have := R134.1 15 _ _ rfl; have := R134.1 16 _ _ rfl; have := R134.1 19 _ _ rfl; have := E145.f yS; omega)
            have K172 : nN M151 o0 := K147.same (sA_a A156 (by decide)) (sF_a V157)
            clear z139 z140 z141 z142 z143 z144
            refine mv_aload_n d_TrustDeskModel_readClause_148 rfl rfl ?_
            obtain ⟨a174, q173, t_a174⟩ := tm_atR I152 t137 (k := 9) rfl
            refine tr_getK q173 d_TrustDeskModel_readClause_149 f_TrustDeskModel_32_13 ?_
            refine mv_iload_n d_TrustDeskModel_readClause_152 rfl rfl ?_
            refine mv_aload_n d_TrustDeskModel_readClause_153 rfl rfl ?_
            refine mv_iconst (v := 1) d_TrustDeskModel_readClause_154 (by decide) ?_
            refine mv_aload_n d_TrustDeskModel_readClause_155 rfl rfl ?_
            refine tr_getK (k := 8) (K153 _ 13 8 _ q150) d_TrustDeskModel_readClause_156 f_TrustDeskModel_29_13 ?_
            refine mv_iload_n d_TrustDeskModel_readClause_159 rfl rfl ?_
            refine tr_ialdR (o := o0) (k := 8) I152 (K153 _ 13 8 _ q150) t138 (by decide) d_TrustDeskModel_readClause_160 (vp_in_iff.mpr (by have := R154.1 15 _ _ rfl; have := R154.1 16 _ _ rfl; have := R154.1 19 _ _ rfl; have := E168.f yS; omega)) (fun v175 e176 => ?_)
            have := R154.a (k := 8) rfl (v102 : Int32).toNatClampNeg
            have h177 : (880 + ra M0 o0 6 44).toNat = v102.toNatClampNeg := by have := mz_nat9 (i := v102) (by have := R154.1 15 _ _ rfl; have := R154.1 16 _ _ rfl; have := R154.1 19 _ _ rfl; have := E168.f yS; omega); have := R154.1 15 _ _ rfl; have := R154.1 16 _ _ rfl; have := R154.1 19 _ _ rfl; have := E168.f yS; omega
            have z178 : v175.toInt = ra M151 o0 8 ((880 + ra M0 o0 6 44).toNat) := by rw [e176, h177]
            have : v175.toInt = _ := Eq.trans z178 z170
            obtain ⟨_, b185, -⟩ := I152.1 _ _ t137
            have : (1 : Int32).toInt = 1 := by decide
            refine mv_callV (kc' := 0) (ks' := 0) (As := [.int 1, .int v175]) (st9 := [.int v175, .int 1, .ref o0, .int v102, .ref a174]) d_TrustDeskModel_readClause_161 lV_TrustDeskModel_317 b185 rfl (tc_TrustDeskModel_number_x (d := (d + 23)) (x9 := x9) (o0 := o0) (x1 := 1) (x2 := v175) t137 R154 E168.1 (by have := R154.1 15 _ _ rfl; have := R154.1 16 _ _ rfl; have := R154.1 19 _ _ rfl; have := E168.f yS; omega) I152.start) rfl (Nat.le_of_ble_eq_true rfl) (Nat.le_of_ble_eq_true rfl) (Nat.le_of_ble_eq_true rfl) (hst := rfl) (fun b179r M180 n181 b179 => ?_)
            obtain ⟨T182, J183, v186, rfl, R187, f188, f189⟩ := b179
            have I184 := I152.call J183 (tm_sub (by decide)) (Or.inl rfl)
            have t190 := J183.up t137
            have t191 := J183.up t_a174
            have z192 := (rv_c I152 J183 (I152.up h_o0) (k := 22) rfl).trans z162
            have z193 := (rv_c I152 J183 (I152.up h_o0) (k := 24) rfl).trans z163
            have z194 := (ra_call I152 J183 (I152.up h_o0) (k := 5) rfl rfl rfl 44).trans z164
            have z195 := (ra_call I152 J183 (I152.up h_o0) (k := 6) rfl rfl rfl 44).trans z165
            have z196 := (ra_call I152 J183 (I152.up h_o0) (k := 7) rfl rfl rfl ((880 + ra M0 o0 6 44).toNat)).trans z166
            have z197 := (ra_call I152 J183 (I152.up h_o0) (k := 10) rfl rfl rfl ((880 + ra M0 o0 6 44).toNat)).trans z167
            have z198 := (ra_call I152 J183 (I152.up h_o0) (k := 8) rfl rfl rfl ((880 + ra M0 o0 6 44).toNat)).trans z170
            have E199 : rE M0 M180 o0 0 3 := E168.trans f188 (by decide) (yR.2 5 _ _ rfl 44).1 (by decide) (by decide)
            have := f188.w
            have := f188.w2
            have K200 : rK M0 M180 o0 ((880 + ra M0 o0 6 44).toNat) := K171.same (sA_c I152 J183 (I152.up h_o0) (by decide))
            have K201 : nN M180 o0 := K172.same (sA_c I152 J183 (I152.up h_o0) (by decide)) (sF_c I152 J183 (I152.up h_o0) (by decide))
            clear z162 z163 z164 z165 z166 z167 z170
            have q202 := J183.keep t137 (by decide) (K153 _ 13 6 _ q148)
            have t203 := J183.up t149
            have q204 := J183.keep t137 (by decide) (K153 _ 13 8 _ q150)
            have t205 := J183.up t138
            have q206 := J183.keep t137 (by decide) q173
            refine tr_iastR (k := 9) I184 R187 (I184.up h_o0) q206 t191 (by decide) (by decide) (fun lo hi h => by cases h) (Or.inl (by decide)) d_TrustDeskModel_readClause_164 (vp_in_iff.mpr (by have := R187.1 15 _ _ rfl; have := R187.1 16 _ _ rfl; have := R187.1 19 _ _ rfl; have := E199.f yS; omega)) (fun M207 I208 K209 R210 E211 A212 V213 => ?_)
            have z214 := (V213 15)
            have z215 := (V213 16)
            have z216 := (V213 17)
            have z217 := (V213 19)
            have z218 := (V213 22).trans z192
            have z219 := (V213 24).trans z193
            have z220 := (A212 5 (by decide) rfl 44).trans z194
            have z221 := (A212 6 (by decide) rfl 44).trans z195
            have z222 := (A212 7 (by decide) rfl ((880 + ra M0 o0 6 44).toNat)).trans z196
            have z223 := (A212 10 (by decide) rfl ((880 + ra M0 o0 6 44).toNat)).trans z197
            have z224 := (A212 8 (by decide) rfl ((880 + ra M0 o0 6 44).toNat)).trans z198
            have E225 : rE M0 M207 o0 0 3 := E199.same (fun k _ _ => V213 k) (fun k h1 h2 => A212 k (by omega) (by rcases (show k = 4 ∨ k = 5 by omega) with rfl | rfl <;> rfl))
            have K226 : rK M0 M207 o0 ((880 + ra M0 o0 6 44).toNat) := K200.same (sA_a A212 (by decide))
            have K227 : nN M207 o0 := K201.same (sA_a A212 (by decide)) (sF_a V213)
            clear z192 z193 z194 z195 z196 z197 z198
            refine mv_aload_n d_TrustDeskModel_readClause_165 rfl rfl ?_
            refine mv_bipush (v := 59) d_TrustDeskModel_readClause_166 (by decide) ?_
            obtain ⟨_, b234, -⟩ := I208.1 _ _ t190
            have : (59 : Int32).toInt = 59 := by decide
            refine mv_callV (kc' := 0) (ks' := 0) (As := [.int 59]) (st9 := [.int 59, .ref o0]) d_TrustDeskModel_readClause_168 lV_TrustDeskModel_291 b234 rfl (tc_TrustDeskModel_wantSign_x (d := (d + 23)) (x9 := x9) (o0 := o0) (x1 := 59) t190 R210 E225.1 (by have := R210.1 15 _ _ rfl; have := R210.1 16 _ _ rfl; have := R210.1 19 _ _ rfl; have := E225.f yS; omega) I208.start) rfl (Nat.le_of_ble_eq_true rfl) (Nat.le_of_ble_eq_true rfl) (Nat.le_of_ble_eq_true rfl) (hst := rfl) (fun b228r M229 n230 b228 => ?_)
            obtain ⟨T231, J232, rfl, R235, f236⟩ := b228
            have I233 := I208.call J232 (tm_sub (by decide)) (Or.inl rfl)
            have t237 := J232.up t190
            have z238 := (rv_c I208 J232 (I208.up h_o0) (k := 22) rfl).trans z218
            have z239 := (rv_c I208 J232 (I208.up h_o0) (k := 24) rfl).trans z219
            have z240 := (ra_call I208 J232 (I208.up h_o0) (k := 5) rfl rfl rfl 44).trans z220
            have z241 := (ra_call I208 J232 (I208.up h_o0) (k := 6) rfl rfl rfl 44).trans z221
            have z242 := (ra_call I208 J232 (I208.up h_o0) (k := 7) rfl rfl rfl ((880 + ra M0 o0 6 44).toNat)).trans z222
            have z243 := (ra_call I208 J232 (I208.up h_o0) (k := 10) rfl rfl rfl ((880 + ra M0 o0 6 44).toNat)).trans z223
            have z244 := (ra_call I208 J232 (I208.up h_o0) (k := 8) rfl rfl rfl ((880 + ra M0 o0 6 44).toNat)).trans z224
            have E245 : rE M0 M229 o0 0 4 := E225.trans f236 (by decide) (yR.2 5 _ _ rfl 44).1 (by decide) (by decide)
            have := f236.w
            have := f236.w2
            have K246 : rK M0 M229 o0 ((880 + ra M0 o0 6 44).toNat) := K226.same (sA_c I208 J232 (I208.up h_o0) (by decide))
            have K247 : nN M229 o0 := K227.same (sA_c I208 J232 (I208.up h_o0) (by decide)) (sF_c I208 J232 (I208.up h_o0) (by decide))
            clear z218 z219 z220 z221 z222 z223 z224
            have q248 := J232.keep t190 (by decide) (K209 _ 13 6 _ q202)
            have t249 := J232.up t203
            have q250 := J232.keep t190 (by decide) (K209 _ 13 8 _ q204)
            have t251 := J232.up t205
            have q252 := J232.keep t190 (by decide) (K209 _ 13 9 _ q206)
            have t253 := J232.up t191
            refine mv_aload_n d_TrustDeskModel_readClause_171 rfl rfl ?_
            obtain ⟨a255, q254, t_a255⟩ := tm_atR I233 t237 (k := 12) rfl
            refine tr_getK q254 d_TrustDeskModel_readClause_172 f_TrustDeskModel_41_13 ?_
            refine mv_iload_n d_TrustDeskModel_readClause_175 rfl rfl ?_
            refine mv_aload_n d_TrustDeskModel_readClause_176 rfl rfl ?_
            obtain ⟨a257, q256, t_a257⟩ := tm_atR I233 t237 (k := 5) rfl
            refine tr_getK q256 d_TrustDeskModel_readClause_177 f_TrustDeskModel_20_13 ?_
            refine mv_bipush (v := 44) d_TrustDeskModel_readClause_180 (by decide) ?_
            refine tr_ialdR (o := o0) (k := 5) I233 q256 t_a257 (by decide) d_TrustDeskModel_readClause_182 (by unfold vp_in; decide) (fun v258 e259 => ?_)
            have := R235.a (k := 5) rfl (44 : Int32).toNatClampNeg
            have : v258.toInt = ra M229 o0 5 44 := e259
            have : v258.toInt = _ := Eq.trans e259 z240
            refine tr_iastR (k := 12) I233 R235 (I233.up h_o0) q254 t_a255 (by decide) (by decide) (fun lo hi h => by cases h; have := R235.1 15 _ _ rfl; have := R235.1 16 _ _ rfl; have := R235.1 19 _ _ rfl; have := E245.f yS; exact ⟨by show (0 : Int) ≤ v258.toInt; omega, by show v258.toInt ≤ (400 : Int); omega⟩) (Or.inl (by decide)) d_TrustDeskModel_readClause_183 (vp_in_iff.mpr (by have := R235.1 15 _ _ rfl; have := R235.1 16 _ _ rfl; have := R235.1 19 _ _ rfl; have := E245.f yS; omega)) (fun M260 I261 K262 R263 E264 A265 V266 => ?_)
            have z267 := (V266 15)
            have z268 := (V266 16)
            have z269 := (V266 17)
            have z270 := (V266 19)
            have z271 := (V266 22).trans z238
            have z272 := (V266 24).trans z239
            have z273 := (A265 5 (by decide) rfl 44).trans z240
            have z274 := (A265 6 (by decide) rfl 44).trans z241
            have z275 := (A265 7 (by decide) rfl ((880 + ra M0 o0 6 44).toNat)).trans z242
            have z276 := (A265 10 (by decide) rfl ((880 + ra M0 o0 6 44).toNat)).trans z243
            have z277 := (A265 8 (by decide) rfl ((880 + ra M0 o0 6 44).toNat)).trans z244
            have E278 : rE M0 M260 o0 0 4 := E245.same (fun k _ _ => V266 k) (fun k h1 h2 => A265 k (by omega) (by rcases (show k = 4 ∨ k = 5 by omega) with rfl | rfl <;> rfl))
            have h279 : (880 + ra M0 o0 6 44).toNat = v102.toNatClampNeg := by have := mz_nat9 (i := v102) (by have := R235.1 15 _ _ rfl; have := R235.1 16 _ _ rfl; have := R235.1 19 _ _ rfl; have := E245.f yS; omega); have := R235.1 15 _ _ rfl; have := R235.1 16 _ _ rfl; have := R235.1 19 _ _ rfl; have := E245.f yS; omega
            have z280 : ra M260 o0 12 ((880 + ra M0 o0 6 44).toNat) = v258.toInt := (E264 _).trans (if_pos h279)
            have K281 : rK M0 M260 o0 ((880 + ra M0 o0 6 44).toNat) := K246.st A265 E264 (by have := mz_nat9 (i := v102) (by have := R235.1 15 _ _ rfl; have := R235.1 16 _ _ rfl; have := R235.1 19 _ _ rfl; have := E245.f yS; omega); have := R235.1 15 _ _ rfl; have := R235.1 16 _ _ rfl; have := R235.1 19 _ _ rfl; have := E245.f yS; omega)
            have K282 : nN M260 o0 := K247.same (sA_a A265 (by decide)) (sF_a V266)
            clear z238 z239 z240 z241 z242 z243 z244
            exact mv_vret d_TrustDeskModel_readClause_184 rfl ⟨_, I261, rfl, R263, (rW.of E278.1 (fun w9 => (by have := R263.1 15 _ _ rfl; have := R263.1 16 _ _ rfl; have := R263.1 19 _ _ rfl; have := E278.f yS; omega)) (fun w9 => rG.step yG yR E278 w9 K281 (by have := yR.2 6 _ _ rfl 44; omega) (by have := R263.1 15 _ _ rfl; have := R263.1 16 _ _ rfl; have := R263.1 19 _ _ rfl; have := E278.f yS; omega) (by have := R263.1 15 _ _ rfl; have := R263.1 16 _ _ rfl; have := R263.1 19 _ _ rfl; have := E278.f yS; omega) (fun h9 => by exfalso; have := R263.1 15 _ _ rfl; have := R263.1 16 _ _ rfl; have := R263.1 19 _ _ rfl; have := E278.f yS; omega) (fun h9 => (by have := R263.1 15 _ _ rfl; have := R263.1 16 _ _ rfl; have := R263.1 19 _ _ rfl; have := E278.f yS; omega)) (by have := R263.1 15 _ _ rfl; have := R263.1 16 _ _ rfl; have := R263.1 19 _ _ rfl; have := E278.f yS; omega) K282)), (rO.of E278 K281 (by have := yR.2 6 _ _ rfl 44; omega)), (by have := R263.1 15 _ _ rfl; have := R263.1 16 _ _ rfl; have := R263.1 19 _ _ rfl; have := E278.f yS; omega), (by have := R263.1 15 _ _ rfl; have := R263.1 16 _ _ rfl; have := R263.1 19 _ _ rfl; have := E278.f yS; omega), (fun h9 _ => absurd h9 (f16 (by have := R263.1 15 _ _ rfl; have := R263.1 16 _ _ rfl; have := R263.1 19 _ _ rfl; have := E278.f yS; omega)))⟩
          · refine mv_bipush (v := 7) d_TrustDeskModel_readClause_100 (by decide) ?_
            refine mv_goto (tgt := 107) d_TrustDeskModel_readClause_102 (by decide) ?_
            obtain ⟨_, b289, -⟩ := I71.1 _ _ t78
            have : (7 : Int32).toInt = 7 := by decide
            refine mv_callV (kc' := 0) (ks' := 0) (As := [.int 7]) (st9 := [.int 7, .ref o0]) d_TrustDeskModel_readClause_107 lV_TrustDeskModel_342 b289 rfl (tc_TrustDeskModel_begin_x (d := (d + 23)) (x9 := x9) (o0 := o0) (x1 := 7) t78 R76 E87.1 (by have := R76.1 15 _ _ rfl; have := R76.1 16 _ _ rfl; have := R76.1 19 _ _ rfl; have := E87.f yS; omega) (by have := R76.1 15 _ _ rfl; have := R76.1 16 _ _ rfl; have := R76.1 19 _ _ rfl; have := E87.f yS; omega) (by have := R76.1 15 _ _ rfl; have := R76.1 16 _ _ rfl; have := R76.1 19 _ _ rfl; have := E87.f yS; omega) (by have := R76.1 15 _ _ rfl; have := R76.1 16 _ _ rfl; have := R76.1 19 _ _ rfl; have := E87.f yS; omega) I71.start) rfl (Nat.le_of_ble_eq_true rfl) (Nat.le_of_ble_eq_true rfl) (Nat.le_of_ble_eq_true rfl) (hst := rfl) (fun b283r M284 n285 b283 => ?_)
            obtain ⟨T286, J287, v290, rfl, R291, f292, f293, f294, f295, f296, f297⟩ := b283
            have I288 := I71.call J287 (tm_sub (by decide)) (Or.inl rfl)
            have t298 := J287.up t78
            have z299 := (rv_c I71 J287 (I71.up h_o0) (k := 19) rfl).trans z82
            have z300 := (rv_c I71 J287 (I71.up h_o0) (k := 22) rfl).trans z83
            have z301 := (rv_c I71 J287 (I71.up h_o0) (k := 24) rfl).trans z84
            have z302 := (ra_call I71 J287 (I71.up h_o0) (k := 5) rfl rfl rfl 44).trans z85
            have E303 : rE M0 M284 o0 0 1 := E87.trans f292 (by decide) (yR.2 5 _ _ rfl 44).1 (by decide) (by decide)
            have := f292.w
            have := f292.w2
            have h304 : (880 + ra M67 o0 6 44).toNat = (880 + ra M0 o0 6 44).toNat := by omega
            rw [h304] at f295 f296 f297
            have K305 : rK M0 M284 o0 ((880 + ra M0 o0 6 44).toNat) := K88.trans f297
            have K306 : nN M284 o0 := K89.same (sA_c I71 J287 (I71.up h_o0) (by decide)) (sF_c I71 J287 (I71.up h_o0) (by decide))
            clear z82 z83 z84
            have q307 := J287.keep t78 (by decide) q90
            have t308 := J287.up t91
            have q309 := J287.keep t78 (by decide) q92
            refine mv_istore_n (lv' := [(3, .int v290), (2, .int v73), (1, .int v10), (0, .ref o0)]) d_TrustDeskModel_readClause_110 rfl (by decide) rfl ?_
            refine mv_iload_n d_TrustDeskModel_readClause_111 rfl rfl ?_
            have := mz_hi v10
            refine mv_if_eqZ (tgt := 123) (a := v10.toInt) d_TrustDeskModel_readClause_112 (by decide) rfl (fun b310 => ?_) (fun b310 => absurd b310 (by omega))
            refine mv_iload_n d_TrustDeskModel_readClause_123 rfl rfl ?_
            have := mz_hi v73
            refine mv_if_eqZ (tgt := 135) (a := v73.toInt) d_TrustDeskModel_readClause_124 (by decide) rfl (fun b311 => ?_) (fun b311 => ?_)
            · refine mv_aload_n d_TrustDeskModel_readClause_135 rfl rfl ?_
              obtain ⟨a313, q312, t_a313⟩ := tm_atR I288 t298 (k := 8) rfl
              refine tr_getK q312 d_TrustDeskModel_readClause_136 f_TrustDeskModel_29_13 ?_
              refine mv_iload_n d_TrustDeskModel_readClause_139 rfl rfl ?_
              refine mv_aload_n d_TrustDeskModel_readClause_140 rfl rfl ?_
              refine mv_iconst (v := 1) d_TrustDeskModel_readClause_141 (by decide) ?_
              refine mv_bipush (v := 7) d_TrustDeskModel_readClause_142 (by decide) ?_
              obtain ⟨_, b320, -⟩ := I288.1 _ _ t298
              have : (1 : Int32).toInt = 1 := by decide
              have : (7 : Int32).toInt = 7 := by decide
              refine mv_callV (kc' := 0) (ks' := 0) (As := [.int 1, .int 7]) (st9 := [.int 7, .int 1, .ref o0, .int v290, .ref a313]) d_TrustDeskModel_readClause_144 lV_TrustDeskModel_317 b320 rfl (tc_TrustDeskModel_number_x (d := (d + 23)) (x9 := x9) (o0 := o0) (x1 := 1) (x2 := 7) t298 R291 E303.1 (by have := R291.1 15 _ _ rfl; have := R291.1 16 _ _ rfl; have := R291.1 19 _ _ rfl; have := E303.f yS; omega) I288.start) rfl (Nat.le_of_ble_eq_true rfl) (Nat.le_of_ble_eq_true rfl) (Nat.le_of_ble_eq_true rfl) (hst := rfl) (fun b314r M315 n316 b314 => ?_)
              obtain ⟨T317, J318, v321, rfl, R322, f323, f324⟩ := b314
              have I319 := I288.call J318 (tm_sub (by decide)) (Or.inl rfl)
              have t325 := J318.up t298
              have t326 := J318.up t_a313
              have z327 := (rv_c I288 J318 (I288.up h_o0) (k := 22) rfl).trans z300
              have z328 := (rv_c I288 J318 (I288.up h_o0) (k := 24) rfl).trans z301
              have z329 := (ra_call I288 J318 (I288.up h_o0) (k := 5) rfl rfl rfl 44).trans z302
              have z330 := (ra_call I288 J318 (I288.up h_o0) (k := 6) rfl rfl rfl 44)
              have z331 := (ra_call I288 J318 (I288.up h_o0) (k := 7) rfl rfl rfl ((880 + ra M0 o0 6 44).toNat))
              have z332 := (ra_call I288 J318 (I288.up h_o0) (k := 10) rfl rfl rfl ((880 + ra M0 o0 6 44).toNat))
              have E333 : rE M0 M315 o0 0 2 := E303.trans f323 (by decide) (yR.2 5 _ _ rfl 44).1 (by decide) (by decide)
              have := f323.w
              have := f323.w2
              have K334 : rK M0 M315 o0 ((880 + ra M0 o0 6 44).toNat) := K305.same (sA_c I288 J318 (I288.up h_o0) (by decide))
              have K335 : nN M315 o0 := K306.same (sA_c I288 J318 (I288.up h_o0) (by decide)) (sF_c I288 J318 (I288.up h_o0) (by decide))
              clear z300 z301 z302
              have q336 := J318.keep t298 (by decide) q307
              have t337 := J318.up t308
              have q338 := J318.keep t298 (by decide) q312
              refine tr_iastR (k := 8) I319 R322 (I319.up h_o0) q338 t326 (by decide) (by decide) (fun lo hi h => by cases h; have := R322.1 15 _ _ rfl; have := R322.1 16 _ _ rfl; have := R322.1 19 _ _ rfl; have := E333.f yS; exact ⟨by show ((-1) : Int) ≤ v321.toInt; omega, by show v321.toInt ≤ (720 : Int); omega⟩) (Or.inl (by decide)) d_TrustDeskModel_readClause_147 (vp_in_iff.mpr (by have := R322.1 15 _ _ rfl; have := R322.1 16 _ _ rfl; have := R322.1 19 _ _ rfl; have := E333.f yS; omega)) (fun M339 I340 K341 R342 E343 A344 V345 => ?_)
              have z346 := (V345 15)
              have z347 := (V345 16)
              have z348 := (V345 17)
              have z349 := (V345 19)
              have z350 := (V345 22).trans z327
              have z351 := (V345 24).trans z328
              have z352 := (A344 5 (by decide) rfl 44).trans z329
              have z353 := (A344 6 (by decide) rfl 44).trans z330
              have z354 := (A344 7 (by decide) rfl ((880 + ra M0 o0 6 44).toNat)).trans z331
              have z355 := (A344 10 (by decide) rfl ((880 + ra M0 o0 6 44).toNat)).trans z332
              have E356 : rE M0 M339 o0 0 2 := E333.same (fun k _ _ => V345 k) (fun k h1 h2 => A344 k (by omega) (by rcases (show k = 4 ∨ k = 5 by omega) with rfl | rfl <;> rfl))
              have h357 : (880 + ra M0 o0 6 44).toNat = v290.toNatClampNeg := by have := mz_nat9 (i := v290) (by have := R322.1 15 _ _ rfl; have := R322.1 16 _ _ rfl; have := R322.1 19 _ _ rfl; have := E333.f yS; omega); have := R322.1 15 _ _ rfl; have := R322.1 16 _ _ rfl; have := R322.1 19 _ _ rfl; have := E333.f yS; omega
              have z358 : ra M339 o0 8 ((880 + ra M0 o0 6 44).toNat) = v321.toInt := (E343 _).trans (if_pos h357)
              have K359 : rK M0 M339 o0 ((880 + ra M0 o0 6 44).toNat) := K334.st A344 E343 (by have := mz_nat9 (i := v290) (by have := R322.1 15 _ _ rfl; have := R322.1 16 _ _ rfl; have := R322.1 19 _ _ rfl; have := E333.f yS; omega); have := R322.1 15 _ _ rfl; have := R322.1 16 _ _ rfl; have := R322.1 19 _ _ rfl; have := E333.f yS; omega)
              have K360 : nN M339 o0 := K335.same (sA_a A344 (by decide)) (sF_a V345)
              clear z327 z328 z329 z330 z331 z332
              refine mv_aload_n d_TrustDeskModel_readClause_148 rfl rfl ?_
              obtain ⟨a362, q361, t_a362⟩ := tm_atR I340 t325 (k := 9) rfl
              refine tr_getK q361 d_TrustDeskModel_readClause_149 f_TrustDeskModel_32_13 ?_
              refine mv_iload_n d_TrustDeskModel_readClause_152 rfl rfl ?_
              refine mv_aload_n d_TrustDeskModel_readClause_153 rfl rfl ?_
              refine mv_iconst (v := 1) d_TrustDeskModel_readClause_154 (by decide) ?_
              refine mv_aload_n d_TrustDeskModel_readClause_155 rfl rfl ?_
              refine tr_getK (k := 8) (K341 _ 13 8 _ q338) d_TrustDeskModel_readClause_156 f_TrustDeskModel_29_13 ?_
              refine mv_iload_n d_TrustDeskModel_readClause_159 rfl rfl ?_
              refine tr_ialdR (o := o0) (k := 8) I340 (K341 _ 13 8 _ q338) t326 (by decide) d_TrustDeskModel_readClause_160 (vp_in_iff.mpr (by have := R342.1 15 _ _ rfl; have := R342.1 16 _ _ rfl; have := R342.1 19 _ _ rfl; have := E356.f yS; omega)) (fun v363 e364 => ?_)
              have := R342.a (k := 8) rfl (v290 : Int32).toNatClampNeg
              have h365 : (880 + ra M0 o0 6 44).toNat = v290.toNatClampNeg := by have := mz_nat9 (i := v290) (by have := R342.1 15 _ _ rfl; have := R342.1 16 _ _ rfl; have := R342.1 19 _ _ rfl; have := E356.f yS; omega); have := R342.1 15 _ _ rfl; have := R342.1 16 _ _ rfl; have := R342.1 19 _ _ rfl; have := E356.f yS; omega
              have z366 : v363.toInt = ra M339 o0 8 ((880 + ra M0 o0 6 44).toNat) := by rw [e364, h365]
              have : v363.toInt = _ := Eq.trans z366 z358
              obtain ⟨_, b373, -⟩ := I340.1 _ _ t325
              have : (1 : Int32).toInt = 1 := by decide
              refine mv_callV (kc' := 0) (ks' := 0) (As := [.int 1, .int v363]) (st9 := [.int v363, .int 1, .ref o0, .int v290, .ref a362]) d_TrustDeskModel_readClause_161 lV_TrustDeskModel_317 b373 rfl (tc_TrustDeskModel_number_x (d := (d + 23)) (x9 := x9) (o0 := o0) (x1 := 1) (x2 := v363) t325 R342 E356.1 (by have := R342.1 15 _ _ rfl; have := R342.1 16 _ _ rfl; have := R342.1 19 _ _ rfl; have := E356.f yS; omega) I340.start) rfl (Nat.le_of_ble_eq_true rfl) (Nat.le_of_ble_eq_true rfl) (Nat.le_of_ble_eq_true rfl) (hst := rfl) (fun b367r M368 n369 b367 => ?_)
              obtain ⟨T370, J371, v374, rfl, R375, f376, f377⟩ := b367
              have I372 := I340.call J371 (tm_sub (by decide)) (Or.inl rfl)
              have t378 := J371.up t325
              have t379 := J371.up t_a362
              have z380 := (rv_c I340 J371 (I340.up h_o0) (k := 22) rfl).trans z350
              have z381 := (rv_c I340 J371 (I340.up h_o0) (k := 24) rfl).trans z351
              have z382 := (ra_call I340 J371 (I340.up h_o0) (k := 5) rfl rfl rfl 44).trans z352
              have z383 := (ra_call I340 J371 (I340.up h_o0) (k := 6) rfl rfl rfl 44).trans z353
              have z384 := (ra_call I340 J371 (I340.up h_o0) (k := 7) rfl rfl rfl ((880 + ra M0 o0 6 44).toNat)).trans z354
              have z385 := (ra_call I340 J371 (I340.up h_o0) (k := 10) rfl rfl rfl ((880 + ra M0 o0 6 44).toNat)).trans z355
              have z386 := (ra_call I340 J371 (I340.up h_o0) (k := 8) rfl rfl rfl ((880 + ra M0 o0 6 44).toNat)).trans z358
              have E387 : rE M0 M368 o0 0 3 := E356.trans f376 (by decide) (yR.2 5 _ _ rfl 44).1 (by decide) (by decide)
              have := f376.w
              have := f376.w2
              have K388 : rK M0 M368 o0 ((880 + ra M0 o0 6 44).toNat) := K359.same (sA_c I340 J371 (I340.up h_o0) (by decide))
              have K389 : nN M368 o0 := K360.same (sA_c I340 J371 (I340.up h_o0) (by decide)) (sF_c I340 J371 (I340.up h_o0) (by decide))
              clear z350 z351 z352 z353 z354 z355 z358
              have q390 := J371.keep t325 (by decide) (K341 _ 13 6 _ q336)
              have t391 := J371.up t337
              have q392 := J371.keep t325 (by decide) (K341 _ 13 8 _ q338)
              have t393 := J371.up t326
              have q394 := J371.keep t325 (by decide) q361
              refine tr_iastR (k := 9) I372 R375 (I372.up h_o0) q394 t379 (by decide) (by decide) (fun lo hi h => by cases h) (Or.inl (by decide)) d_TrustDeskModel_readClause_164 (vp_in_iff.mpr (by have := R375.1 15 _ _ rfl; have := R375.1 16 _ _ rfl; have := R375.1 19 _ _ rfl; have := E387.f yS; omega)) (fun M395 I396 K397 R398 E399 A400 V401 => ?_)
              have z402 := (V401 15)
              have z403 := (V401 16)
              have z404 := (V401 17)
              have z405 := (V401 19)
              have z406 := (V401 22).trans z380
              have z407 := (V401 24).trans z381
              have z408 := (A400 5 (by decide) rfl 44).trans z382
              have z409 := (A400 6 (by decide) rfl 44).trans z383
              have z410 := (A400 7 (by decide) rfl ((880 + ra M0 o0 6 44).toNat)).trans z384
              have z411 := (A400 10 (by decide) rfl ((880 + ra M0 o0 6 44).toNat)).trans z385
              have z412 := (A400 8 (by decide) rfl ((880 + ra M0 o0 6 44).toNat)).trans z386
              have E413 : rE M0 M395 o0 0 3 := E387.same (fun k _ _ => V401 k) (fun k h1 h2 => A400 k (by omega) (by rcases (show k = 4 ∨ k = 5 by omega) with rfl | rfl <;> rfl))
              have K414 : rK M0 M395 o0 ((880 + ra M0 o0 6 44).toNat) := K388.same (sA_a A400 (by decide))
              have K415 : nN M395 o0 := K389.same (sA_a A400 (by decide)) (sF_a V401)
              clear z380 z381 z382 z383 z384 z385 z386
              refine mv_aload_n d_TrustDeskModel_readClause_165 rfl rfl ?_
              refine mv_bipush (v := 59) d_TrustDeskModel_readClause_166 (by decide) ?_
              obtain ⟨_, b422, -⟩ := I396.1 _ _ t378
              have : (59 : Int32).toInt = 59 := by decide
              refine mv_callV (kc' := 0) (ks' := 0) (As := [.int 59]) (st9 := [.int 59, .ref o0]) d_TrustDeskModel_readClause_168 lV_TrustDeskModel_291 b422 rfl (tc_TrustDeskModel_wantSign_x (d := (d + 23)) (x9 := x9) (o0 := o0) (x1 := 59) t378 R398 E413.1 (by have := R398.1 15 _ _ rfl; have := R398.1 16 _ _ rfl; have := R398.1 19 _ _ rfl; have := E413.f yS; omega) I396.start) rfl (Nat.le_of_ble_eq_true rfl) (Nat.le_of_ble_eq_true rfl) (Nat.le_of_ble_eq_true rfl) (hst := rfl) (fun b416r M417 n418 b416 => ?_)
              obtain ⟨T419, J420, rfl, R423, f424⟩ := b416
              have I421 := I396.call J420 (tm_sub (by decide)) (Or.inl rfl)
              have t425 := J420.up t378
              have z426 := (rv_c I396 J420 (I396.up h_o0) (k := 22) rfl).trans z406
              have z427 := (rv_c I396 J420 (I396.up h_o0) (k := 24) rfl).trans z407
              have z428 := (ra_call I396 J420 (I396.up h_o0) (k := 5) rfl rfl rfl 44).trans z408
              have z429 := (ra_call I396 J420 (I396.up h_o0) (k := 6) rfl rfl rfl 44).trans z409
              have z430 := (ra_call I396 J420 (I396.up h_o0) (k := 7) rfl rfl rfl ((880 + ra M0 o0 6 44).toNat)).trans z410
              have z431 := (ra_call I396 J420 (I396.up h_o0) (k := 10) rfl rfl rfl ((880 + ra M0 o0 6 44).toNat)).trans z411
              have z432 := (ra_call I396 J420 (I396.up h_o0) (k := 8) rfl rfl rfl ((880 + ra M0 o0 6 44).toNat)).trans z412
              have E433 : rE M0 M417 o0 0 4 := E413.trans f424 (by decide) (yR.2 5 _ _ rfl 44).1 (by decide) (by decide)
              have := f424.w
              have := f424.w2
              have K434 : rK M0 M417 o0 ((880 + ra M0 o0 6 44).toNat) := K414.same (sA_c I396 J420 (I396.up h_o0) (by decide))
              have K435 : nN M417 o0 := K415.same (sA_c I396 J420 (I396.up h_o0) (by decide)) (sF_c I396 J420 (I396.up h_o0) (by decide))
              clear z406 z407 z408 z409 z410 z411 z412
              have q436 := J420.keep t378 (by decide) (K397 _ 13 6 _ q390)
              have t437 := J420.up t391
              have q438 := J420.keep t378 (by decide) (K397 _ 13 8 _ q392)
              have t439 := J420.up t393
              have q440 := J420.keep t378 (by decide) (K397 _ 13 9 _ q394)
              have t441 := J420.up t379
              refine mv_aload_n d_TrustDeskModel_readClause_171 rfl rfl ?_
              obtain ⟨a443, q442, t_a443⟩ := tm_atR I421 t425 (k := 12) rfl
              refine tr_getK q442 d_TrustDeskModel_readClause_172 f_TrustDeskModel_41_13 ?_
              refine mv_iload_n d_TrustDeskModel_readClause_175 rfl rfl ?_
              refine mv_aload_n d_TrustDeskModel_readClause_176 rfl rfl ?_
              obtain ⟨a445, q444, t_a445⟩ := tm_atR I421 t425 (k := 5) rfl
              refine tr_getK q444 d_TrustDeskModel_readClause_177 f_TrustDeskModel_20_13 ?_
              refine mv_bipush (v := 44) d_TrustDeskModel_readClause_180 (by decide) ?_
              refine tr_ialdR (o := o0) (k := 5) I421 q444 t_a445 (by decide) d_TrustDeskModel_readClause_182 (by unfold vp_in; decide) (fun v446 e447 => ?_)
              have := R423.a (k := 5) rfl (44 : Int32).toNatClampNeg
              have : v446.toInt = ra M417 o0 5 44 := e447
              have : v446.toInt = _ := Eq.trans e447 z428
              refine tr_iastR (k := 12) I421 R423 (I421.up h_o0) q442 t_a443 (by decide) (by decide) (fun lo hi h => by cases h; have := R423.1 15 _ _ rfl; have := R423.1 16 _ _ rfl; have := R423.1 19 _ _ rfl; have := E433.f yS; exact ⟨by show (0 : Int) ≤ v446.toInt; omega, by show v446.toInt ≤ (400 : Int); omega⟩) (Or.inl (by decide)) d_TrustDeskModel_readClause_183 (vp_in_iff.mpr (by have := R423.1 15 _ _ rfl; have := R423.1 16 _ _ rfl; have := R423.1 19 _ _ rfl; have := E433.f yS; omega)) (fun M448 I449 K450 R451 E452 A453 V454 => ?_)
              have z455 := (V454 15)
              have z456 := (V454 16)
              have z457 := (V454 17)
              have z458 := (V454 19)
              have z459 := (V454 22).trans z426
              have z460 := (V454 24).trans z427
              have z461 := (A453 5 (by decide) rfl 44).trans z428
              have z462 := (A453 6 (by decide) rfl 44).trans z429
              have z463 := (A453 7 (by decide) rfl ((880 + ra M0 o0 6 44).toNat)).trans z430
              have z464 := (A453 10 (by decide) rfl ((880 + ra M0 o0 6 44).toNat)).trans z431
              have z465 := (A453 8 (by decide) rfl ((880 + ra M0 o0 6 44).toNat)).trans z432
              have E466 : rE M0 M448 o0 0 4 := E433.same (fun k _ _ => V454 k) (fun k h1 h2 => A453 k (by omega) (by rcases (show k = 4 ∨ k = 5 by omega) with rfl | rfl <;> rfl))
              have h467 : (880 + ra M0 o0 6 44).toNat = v290.toNatClampNeg := by have := mz_nat9 (i := v290) (by have := R423.1 15 _ _ rfl; have := R423.1 16 _ _ rfl; have := R423.1 19 _ _ rfl; have := E433.f yS; omega); have := R423.1 15 _ _ rfl; have := R423.1 16 _ _ rfl; have := R423.1 19 _ _ rfl; have := E433.f yS; omega
              have z468 : ra M448 o0 12 ((880 + ra M0 o0 6 44).toNat) = v446.toInt := (E452 _).trans (if_pos h467)
              have K469 : rK M0 M448 o0 ((880 + ra M0 o0 6 44).toNat) := K434.st A453 E452 (by have := mz_nat9 (i := v290) (by have := R423.1 15 _ _ rfl; have := R423.1 16 _ _ rfl; have := R423.1 19 _ _ rfl; have := E433.f yS; omega); have := R423.1 15 _ _ rfl; have := R423.1 16 _ _ rfl; have := R423.1 19 _ _ rfl; have := E433.f yS; omega)
              have K470 : nN M448 o0 := K435.same (sA_a A453 (by decide)) (sF_a V454)
              clear z426 z427 z428 z429 z430 z431 z432
              exact mv_vret d_TrustDeskModel_readClause_184 rfl ⟨_, I449, rfl, R451, (rW.of E466.1 (fun w9 => (by have := R451.1 15 _ _ rfl; have := R451.1 16 _ _ rfl; have := R451.1 19 _ _ rfl; have := E466.f yS; omega)) (fun w9 => rG.step yG yR E466 w9 K469 (by have := yR.2 6 _ _ rfl 44; omega) (by have := R451.1 15 _ _ rfl; have := R451.1 16 _ _ rfl; have := R451.1 19 _ _ rfl; have := E466.f yS; omega) (by have := R451.1 15 _ _ rfl; have := R451.1 16 _ _ rfl; have := R451.1 19 _ _ rfl; have := E466.f yS; omega) (fun h9 => by exfalso; have := R451.1 15 _ _ rfl; have := R451.1 16 _ _ rfl; have := R451.1 19 _ _ rfl; have := E466.f yS; omega) (fun h9 => (by have := R451.1 15 _ _ rfl; have := R451.1 16 _ _ rfl; have := R451.1 19 _ _ rfl; have := E466.f yS; omega)) (by have := R451.1 15 _ _ rfl; have := R451.1 16 _ _ rfl; have := R451.1 19 _ _ rfl; have := E466.f yS; omega) K470)), (rO.of E466 K469 (by have := yR.2 6 _ _ rfl 44; omega)), (by have := R451.1 15 _ _ rfl; have := R451.1 16 _ _ rfl; have := R451.1 19 _ _ rfl; have := E466.f yS; omega), (by have := R451.1 15 _ _ rfl; have := R451.1 16 _ _ rfl; have := R451.1 19 _ _ rfl; have := E466.f yS; omega), (fun h9 _ => absurd h9 (f16 (by have := R451.1 15 _ _ rfl; have := R451.1 16 _ _ rfl; have := R451.1 19 _ _ rfl; have := E466.f yS; omega)))⟩
            · refine mv_aload_n d_TrustDeskModel_readClause_127 rfl rfl ?_
              refine mv_iload_n d_TrustDeskModel_readClause_128 rfl rfl ?_
              obtain ⟨_, b477, -⟩ := I288.1 _ _ t298
              refine mv_callV (kc' := 0) (ks' := 0) (As := [.int v290]) (st9 := [.int v290, .ref o0]) d_TrustDeskModel_readClause_129 lV_TrustDeskModel_348 b477 rfl (tc_TrustDeskModel_readMarks_x (d := (d + 22)) (x9 := x9) (o0 := o0) (x1 := v290) t298 R291 E303.1 (by have := R291.1 15 _ _ rfl; have := R291.1 16 _ _ rfl; have := R291.1 19 _ _ rfl; have := E303.f yS; omega) (by have := R291.1 15 _ _ rfl; have := R291.1 16 _ _ rfl; have := R291.1 19 _ _ rfl; have := E303.f yS; omega) I288.start) rfl (Nat.le_of_ble_eq_true rfl) (Nat.le_of_ble_eq_true rfl) (Nat.le_of_ble_eq_true rfl) (hst := rfl) (fun b471r M472 n473 b471 => ?_)
              obtain ⟨T474, J475, rfl, R478, f479, f480, f481⟩ := b471
              have I476 := I288.call J475 (tm_sub (by decide)) (Or.inl rfl)
              have t482 := J475.up t298
              have z483 := (rv_c I288 J475 (I288.up h_o0) (k := 22) rfl).trans z300
              have z484 := (rv_c I288 J475 (I288.up h_o0) (k := 24) rfl).trans z301
              have z485 := (ra_call I288 J475 (I288.up h_o0) (k := 5) rfl rfl rfl 44).trans z302
              have z486 := (ra_call I288 J475 (I288.up h_o0) (k := 6) rfl rfl rfl 44)
              have z487 := (ra_call I288 J475 (I288.up h_o0) (k := 7) rfl rfl rfl ((880 + ra M0 o0 6 44).toNat))
              have z488 := (ra_call I288 J475 (I288.up h_o0) (k := 10) rfl rfl rfl ((880 + ra M0 o0 6 44).toNat))
              have E489 : rE M0 M472 o0 0 1 := E303.trans f479 (by decide) (yR.2 5 _ _ rfl 44).1 (by decide) (by decide)
              have := f479.w
              have := f479.w2
              have h490 : v290.toNatClampNeg = (880 + ra M0 o0 6 44).toNat := by have := mz_nat9 (i := v290) (by have := R291.1 15 _ _ rfl; have := R291.1 16 _ _ rfl; have := R291.1 19 _ _ rfl; have := E303.f yS; omega); have := R291.1 15 _ _ rfl; have := R291.1 16 _ _ rfl; have := R291.1 19 _ _ rfl; have := E303.f yS; omega
              rw [h490] at f480 f481
              have K491 : rK M0 M472 o0 ((880 + ra M0 o0 6 44).toNat) := K305.one8 (sA_c I288 J475 (I288.up h_o0) (by decide)) f480
              have K492 : nN M472 o0 := K306.same (sA_c I288 J475 (I288.up h_o0) (by decide)) (sF_c I288 J475 (I288.up h_o0) (by decide))
              clear z300 z301 z302
              have q493 := J475.keep t298 (by decide) q307
              have t494 := J475.up t308
              refine mv_goto (tgt := 165) d_TrustDeskModel_readClause_132 (by decide) ?_
              refine mv_aload_n d_TrustDeskModel_readClause_165 rfl rfl ?_
              refine mv_bipush (v := 59) d_TrustDeskModel_readClause_166 (by decide) ?_
              obtain ⟨_, b501, -⟩ := I476.1 _ _ t482
              have : (59 : Int32).toInt = 59 := by decide
              refine mv_callV (kc' := 0) (ks' := 0) (As := [.int 59]) (st9 := [.int 59, .ref o0]) d_TrustDeskModel_readClause_168 lV_TrustDeskModel_291 b501 rfl (tc_TrustDeskModel_wantSign_x (d := (d + 23)) (x9 := x9) (o0 := o0) (x1 := 59) t482 R478 E489.1 (by have := R478.1 15 _ _ rfl; have := R478.1 16 _ _ rfl; have := R478.1 19 _ _ rfl; have := E489.f yS; omega) I476.start) rfl (Nat.le_of_ble_eq_true rfl) (Nat.le_of_ble_eq_true rfl) (Nat.le_of_ble_eq_true rfl) (hst := rfl) (fun b495r M496 n497 b495 => ?_)
              obtain ⟨T498, J499, rfl, R502, f503⟩ := b495
              have I500 := I476.call J499 (tm_sub (by decide)) (Or.inl rfl)
              have t504 := J499.up t482
              have z505 := (rv_c I476 J499 (I476.up h_o0) (k := 22) rfl).trans z483
              have z506 := (rv_c I476 J499 (I476.up h_o0) (k := 24) rfl).trans z484
              have z507 := (ra_call I476 J499 (I476.up h_o0) (k := 5) rfl rfl rfl 44).trans z485
              have z508 := (ra_call I476 J499 (I476.up h_o0) (k := 6) rfl rfl rfl 44).trans z486
              have z509 := (ra_call I476 J499 (I476.up h_o0) (k := 7) rfl rfl rfl ((880 + ra M0 o0 6 44).toNat)).trans z487
              have z510 := (ra_call I476 J499 (I476.up h_o0) (k := 10) rfl rfl rfl ((880 + ra M0 o0 6 44).toNat)).trans z488
              have z511 := (ra_call I476 J499 (I476.up h_o0) (k := 8) rfl rfl rfl ((880 + ra M0 o0 6 44).toNat))
              have E512 : rE M0 M496 o0 0 2 := E489.trans f503 (by decide) (yR.2 5 _ _ rfl 44).1 (by decide) (by decide)
              have := f503.w
              have := f503.w2
              have K513 : rK M0 M496 o0 ((880 + ra M0 o0 6 44).toNat) := K491.same (sA_c I476 J499 (I476.up h_o0) (by decide))
              have K514 : nN M496 o0 := K492.same (sA_c I476 J499 (I476.up h_o0) (by decide)) (sF_c I476 J499 (I476.up h_o0) (by decide))
              clear z483 z484 z485 z486 z487 z488
              have q515 := J499.keep t482 (by decide) q493
              have t516 := J499.up t494
              refine mv_aload_n d_TrustDeskModel_readClause_171 rfl rfl ?_
              obtain ⟨a518, q517, t_a518⟩ := tm_atR I500 t504 (k := 12) rfl
              refine tr_getK q517 d_TrustDeskModel_readClause_172 f_TrustDeskModel_41_13 ?_
              refine mv_iload_n d_TrustDeskModel_readClause_175 rfl rfl ?_
              refine mv_aload_n d_TrustDeskModel_readClause_176 rfl rfl ?_
              obtain ⟨a520, q519, t_a520⟩ := tm_atR I500 t504 (k := 5) rfl
              refine tr_getK q519 d_TrustDeskModel_readClause_177 f_TrustDeskModel_20_13 ?_
              refine mv_bipush (v := 44) d_TrustDeskModel_readClause_180 (by decide) ?_
              refine tr_ialdR (o := o0) (k := 5) I500 q519 t_a520 (by decide) d_TrustDeskModel_readClause_182 (by unfold vp_in; decide) (fun v521 e522 => ?_)
              have := R502.a (k := 5) rfl (44 : Int32).toNatClampNeg
              have : v521.toInt = ra M496 o0 5 44 := e522
              have : v521.toInt = _ := Eq.trans e522 z507
              refine tr_iastR (k := 12) I500 R502 (I500.up h_o0) q517 t_a518 (by decide) (by decide) (fun lo hi h => by cases h; have := R502.1 15 _ _ rfl; have := R502.1 16 _ _ rfl; have := R502.1 19 _ _ rfl; have := E512.f yS; exact ⟨by show (0 : Int) ≤ v521.toInt; omega, by show v521.toInt ≤ (400 : Int); omega⟩) (Or.inl (by decide)) d_TrustDeskModel_readClause_183 (vp_in_iff.mpr (by have := R502.1 15 _ _ rfl; have := R502.1 16 _ _ rfl; have := R502.1 19 _ _ rfl; have := E512.f yS; omega)) (fun M523 I524 K525 R526 E527 A528 V529 => ?_)
              have z530 := (V529 15)
              have z531 := (V529 16)
              have z532 := (V529 17)
              have z533 := (V529 19)
              have z534 := (V529 22).trans z505
              have z535 := (V529 24).trans z506
              have z536 := (A528 5 (by decide) rfl 44).trans z507
              have z537 := (A528 6 (by decide) rfl 44).trans z508
              have z538 := (A528 7 (by decide) rfl ((880 + ra M0 o0 6 44).toNat)).trans z509
              have z539 := (A528 10 (by decide) rfl ((880 + ra M0 o0 6 44).toNat)).trans z510
              have z540 := (A528 8 (by decide) rfl ((880 + ra M0 o0 6 44).toNat)).trans z511
              have E541 : rE M0 M523 o0 0 2 := E512.same (fun k _ _ => V529 k) (fun k h1 h2 => A528 k (by omega) (by rcases (show k = 4 ∨ k = 5 by omega) with rfl | rfl <;> rfl))
              have h542 : (880 + ra M0 o0 6 44).toNat = v290.toNatClampNeg := by have := mz_nat9 (i := v290) (by have := R502.1 15 _ _ rfl; have := R502.1 16 _ _ rfl; have := R502.1 19 _ _ rfl; have := E512.f yS; omega); have := R502.1 15 _ _ rfl; have := R502.1 16 _ _ rfl; have := R502.1 19 _ _ rfl; have := E512.f yS; omega
              have z543 : ra M523 o0 12 ((880 + ra M0 o0 6 44).toNat) = v521.toInt := (E527 _).trans (if_pos h542)
              have K544 : rK M0 M523 o0 ((880 + ra M0 o0 6 44).toNat) := K513.st A528 E527 (by have := mz_nat9 (i := v290) (by have := R502.1 15 _ _ rfl; have := R502.1 16 _ _ rfl; have := R502.1 19 _ _ rfl; have := E512.f yS; omega); have := R502.1 15 _ _ rfl; have := R502.1 16 _ _ rfl; have := R502.1 19 _ _ rfl; have := E512.f yS; omega)
              have K545 : nN M523 o0 := K514.same (sA_a A528 (by decide)) (sF_a V529)
              clear z505 z506 z507 z508 z509 z510 z511
              exact mv_vret d_TrustDeskModel_readClause_184 rfl ⟨_, I524, rfl, R526, (rW.of E541.1 (fun w9 => (by have := R526.1 15 _ _ rfl; have := R526.1 16 _ _ rfl; have := R526.1 19 _ _ rfl; have := E541.f yS; omega)) (fun w9 => rG.step yG yR E541 w9 K544 (by have := yR.2 6 _ _ rfl 44; omega) (by have := R526.1 15 _ _ rfl; have := R526.1 16 _ _ rfl; have := R526.1 19 _ _ rfl; have := E541.f yS; omega) (by have := R526.1 15 _ _ rfl; have := R526.1 16 _ _ rfl; have := R526.1 19 _ _ rfl; have := E541.f yS; omega) (fun h9 => by exfalso; have := R526.1 15 _ _ rfl; have := R526.1 16 _ _ rfl; have := R526.1 19 _ _ rfl; have := E541.f yS; omega) (fun h9 => (by have := R526.1 15 _ _ rfl; have := R526.1 16 _ _ rfl; have := R526.1 19 _ _ rfl; have := E541.f yS; omega)) (by have := R526.1 15 _ _ rfl; have := R526.1 16 _ _ rfl; have := R526.1 19 _ _ rfl; have := E541.f yS; omega) K545)), (rO.of E541 K544 (by have := yR.2 6 _ _ rfl 44; omega)), (by have := R526.1 15 _ _ rfl; have := R526.1 16 _ _ rfl; have := R526.1 19 _ _ rfl; have := E541.f yS; omega), (by have := R526.1 15 _ _ rfl; have := R526.1 16 _ _ rfl; have := R526.1 19 _ _ rfl; have := E541.f yS; omega), (fun h9 _ => absurd h9 (f16 (by have := R526.1 15 _ _ rfl; have := R526.1 16 _ _ rfl; have := R526.1 19 _ _ rfl; have := E541.f yS; omega)))⟩
      · refine mv_aload_n d_TrustDeskModel_readClause_56 rfl rfl ?_
        obtain ⟨v547, q546⟩ := tm_atI I8 t17 (k := 24) rfl
        refine tr_getK q546 d_TrustDeskModel_readClause_57 f_TrustDeskModel_321_13 ?_
        have := R13.f (k := 24) q546 rfl
        have := (tm_rv q546).symm.trans z23
        have := tm_rv q546
        refine mv_bipush (v := 6) d_TrustDeskModel_readClause_60 (by decide) ?_
        have := mz_hi v547
        refine mv_icmp_neZ (tgt := 70) (a := v547.toInt) (b := 6) d_TrustDeskModel_readClause_62 (by decide) rfl (by decide) (fun b548 => ?_) (fun b548 => ?_)
        · refine mv_aload_n d_TrustDeskModel_readClause_70 rfl rfl ?_
          obtain ⟨_, b549, -⟩ := I8.1 _ _ t17
          refine mv_callV (kc1 := 0) (ks1 := 0) (kc' := 0) (ks' := 0) (As := []) (st9 := [.ref o0]) d_TrustDeskModel_readClause_71 lV_TrustDeskModel_230 b549 rfl (mj_enter (by decide) (Nat.le_of_ble_eq_true rfl) ?_) rfl (Nat.le_of_ble_eq_true rfl) (Nat.le_of_ble_eq_true rfl) (Nat.le_of_ble_eq_true rfl) (hst := rfl) (fun _ _ _ h => h)
          refine mv_aload_n d_TrustDeskModel_isWell_0 rfl rfl ?_
          obtain ⟨v551, q550⟩ := tm_atI I8 t17 (k := 19) rfl
          refine tr_getK q550 d_TrustDeskModel_isWell_1 f_TrustDeskModel_224_13 ?_
          have := R13.f (k := 19) q550 rfl
          have := (tm_rv q550).symm.trans z21
          have := tm_rv q550
          have := mz_hi v551
          refine mv_if_neZ (tgt := 11) (a := v551.toInt) d_TrustDeskModel_isWell_4 (by decide) rfl (fun b552 => ?_) (fun b552 => ?_)
          · refine mv_iconst (v := 0) d_TrustDeskModel_isWell_11 (by decide) ?_
            refine mv_iret d_TrustDeskModel_isWell_12 rfl (by decide) ?_
            refine mv_if_ne_f (tgt := 78) d_TrustDeskModel_readClause_74 (by decide) (by decide) ?_
            exact mv_vret d_TrustDeskModel_readClause_77 rfl ⟨_, I8, rfl, R13, (rW.of E26.1 (fun w9 => (by have := R13.1 15 _ _ rfl; have := R13.1 16 _ _ rfl; have := R13.1 19 _ _ rfl; have := E26.f yS; omega)) (fun w9 => rG.step yG yR E26 w9 K27 (by have := yR.2 6 _ _ rfl 44; omega) (by have := R13.1 15 _ _ rfl; have := R13.1 16 _ _ rfl; have := R13.1 19 _ _ rfl; have := E26.f yS; omega) (by have := R13.1 15 _ _ rfl; have := R13.1 16 _ _ rfl; have := R13.1 19 _ _ rfl; have := E26.f yS; omega) (fun h9 => by exfalso; have := R13.1 15 _ _ rfl; have := R13.1 16 _ _ rfl; have := R13.1 19 _ _ rfl; have := E26.f yS; omega) (fun h9 => (by have := R13.1 15 _ _ rfl; have := R13.1 16 _ _ rfl; have := R13.1 19 _ _ rfl; have := E26.f yS; omega)) (by have := R13.1 15 _ _ rfl; have := R13.1 16 _ _ rfl; have := R13.1 19 _ _ rfl; have := E26.f yS; omega) K28)), (rO.of E26 K27 (by have := yR.2 6 _ _ rfl 44; omega)), (by have := R13.1 15 _ _ rfl; have := R13.1 16 _ _ rfl; have := R13.1 19 _ _ rfl; have := E26.f yS; omega), (by have := R13.1 15 _ _ rfl; have := R13.1 16 _ _ rfl; have := R13.1 19 _ _ rfl; have := E26.f yS; omega), (fun h9 _ => absurd h9 (f16 (by have := R13.1 15 _ _ rfl; have := R13.1 16 _ _ rfl; have := R13.1 19 _ _ rfl; have := E26.f yS; omega)))⟩
          · refine mv_iconst (v := 1) d_TrustDeskModel_isWell_7 (by decide) ?_
            refine mv_goto (tgt := 12) d_TrustDeskModel_isWell_8 (by decide) ?_
            refine mv_iret d_TrustDeskModel_isWell_12 rfl (by decide) ?_
            refine mv_if_ne_t (tgt := 78) d_TrustDeskModel_readClause_74 (by decide) (by decide) ?_
            refine mv_aload_n d_TrustDeskModel_readClause_78 rfl rfl ?_
            refine mv_ldcSw (id := 43) (tx := "mark") d_TrustDeskModel_readClause_79 (List.mem_of_getElem? (i := 33) rfl) ?_
            obtain ⟨_, b559, -⟩ := I8.1 _ _ t17
            refine mv_callV (kc' := 0) (ks' := 0) (As := [.ref 43]) (st9 := [.ref 43, .ref o0]) d_TrustDeskModel_readClause_82 lV_TrustDeskModel_244 b559 rfl (tc_TrustDeskModel_isWord_s1_43_x (d := (d + 21)) (x9 := x9) (o0 := o0) t17 R13 I8.start) rfl (Nat.le_of_ble_eq_true rfl) (Nat.le_of_ble_eq_true rfl) (Nat.le_of_ble_eq_true rfl) (hst := rfl) (fun b553r M554 n555 b553 => ?_)
            obtain ⟨T556, J557, v560, rfl, b561, b562, R563, f564⟩ := b553
            have I558 := I8.call J557 (tm_sub (by decide)) (Or.inl rfl)
            have t565 := J557.up t17
            have z566 := (rv_c I8 J557 (I8.up h_o0) (k := 15) rfl).trans z18
            have z567 := (rv_c I8 J557 (I8.up h_o0) (k := 16) rfl).trans z19
            have z568 := (rv_c I8 J557 (I8.up h_o0) (k := 17) rfl).trans z20
            have z569 := (rv_c I8 J557 (I8.up h_o0) (k := 19) rfl).trans z21
            have z570 := (rv_c I8 J557 (I8.up h_o0) (k := 22) rfl).trans z22
            have z571 := (rv_c I8 J557 (I8.up h_o0) (k := 24) rfl).trans z23
            have z572 := (ra_call I8 J557 (I8.up h_o0) (k := 5) rfl rfl rfl 44).trans z24
            have z573 := (ra_call I8 J557 (I8.up h_o0) (k := 6) rfl rfl rfl 44).trans z25
            have E574 : rE M0 M554 o0 0 0 := E26.same (rE_hv I8 J557 (I8.up h_o0) 15 19 (by decide)) (rE_ha I8 J557 (I8.up h_o0) (by decide))
            have K575 : rK M0 M554 o0 ((880 + ra M0 o0 6 44).toNat) := K27.same (sA_c I8 J557 (I8.up h_o0) (by decide))
            have K576 : nN M554 o0 := K28.same (sA_c I8 J557 (I8.up h_o0) (by decide)) (sF_c I8 J557 (I8.up h_o0) (by decide))
            clear z18 z19 z21 z22 z23 z24 z25
            have q577 := J557.keep t17 (by decide) q30
            have t578 := J557.up t_a31
            have q579 := J557.keep t17 (by decide) q546
            have q580 := J557.keep t17 (by decide) q550
            refine mv_istore_n (lv' := [(2, .int v560), (1, .int v10), (0, .ref o0)]) d_TrustDeskModel_readClause_85 rfl (by decide) rfl ?_
            refine mv_aload_n d_TrustDeskModel_readClause_86 rfl rfl ?_
            refine mv_iload_n d_TrustDeskModel_readClause_87 rfl rfl ?_
            have := mz_hi v10
            refine mv_if_eqZ (tgt := 96) (a := v10.toInt) d_TrustDeskModel_readClause_88 (by decide) rfl (fun b581 => ?_) (fun b581 => ?_)
            · refine mv_iload_n d_TrustDeskModel_readClause_96 rfl rfl ?_
              have := mz_hi v560
              refine mv_if_eqZ (tgt := 105) (a := v560.toInt) d_TrustDeskModel_readClause_97 (by decide) rfl (fun b582 => ?_) (fun b582 => ?_)
              · refine mv_bipush (v := 9) d_TrustDeskModel_readClause_105 (by decide) ?_
                obtain ⟨_, b589, -⟩ := I558.1 _ _ t565
                have : (9 : Int32).toInt = 9 := by decide
                refine mv_callV (kc' := 0) (ks' := 0) (As := [.int 9]) (st9 := [.int 9, .ref o0]) d_TrustDeskModel_readClause_107 lV_TrustDeskModel_342 b589 rfl (tc_TrustDeskModel_begin_x (d := (d + 23)) (x9 := x9) (o0 := o0) (x1 := 9) t565 R563 E574.1 (by have := R563.1 15 _ _ rfl; have := R563.1 16 _ _ rfl; have := R563.1 19 _ _ rfl; have := E574.f yS; omega) (by have := R563.1 15 _ _ rfl; have := R563.1 16 _ _ rfl; have := R563.1 19 _ _ rfl; have := E574.f yS; omega) (by have := R563.1 15 _ _ rfl; have := R563.1 16 _ _ rfl; have := R563.1 19 _ _ rfl; have := E574.f yS; omega) (by have := R563.1 15 _ _ rfl; have := R563.1 16 _ _ rfl; have := R563.1 19 _ _ rfl; have := E574.f yS; omega) I558.start) rfl (Nat.le_of_ble_eq_true rfl) (Nat.le_of_ble_eq_true rfl) (Nat.le_of_ble_eq_true rfl) (hst := rfl) (fun b583r M584 n585 b583 => ?_)
                obtain ⟨T586, J587, v590, rfl, R591, f592, f593, f594, f595, f596, f597⟩ := b583
                have I588 := I558.call J587 (tm_sub (by decide)) (Or.inl rfl)
                have t598 := J587.up t565
                have z599 := (rv_c I558 J587 (I558.up h_o0) (k := 19) rfl).trans z569
                have z600 := (rv_c I558 J587 (I558.up h_o0) (k := 22) rfl).trans z570
                have z601 := (rv_c I558 J587 (I558.up h_o0) (k := 24) rfl).trans z571
                have z602 := (ra_call I558 J587 (I558.up h_o0) (k := 5) rfl rfl rfl 44).trans z572
                have E603 : rE M0 M584 o0 0 1 := E574.trans f592 (by decide) (yR.2 5 _ _ rfl 44).1 (by decide) (by decide)
                have := f592.w
                have := f592.w2
                have h604 : (880 + ra M554 o0 6 44).toNat = (880 + ra M0 o0 6 44).toNat := by omega
                rw [h604] at f595 f596 f597
                have K605 : rK M0 M584 o0 ((880 + ra M0 o0 6 44).toNat) := K575.trans f597
                have K606 : nN M584 o0 := K576.same (sA_c I558 J587 (I558.up h_o0) (by decide)) (sF_c I558 J587 (I558.up h_o0) (by decide))
                clear z569 z570 z571
                have q607 := J587.keep t565 (by decide) q577
                have t608 := J587.up t578
                have q609 := J587.keep t565 (by decide) q579
                have q610 := J587.keep t565 (by decide) q580
                refine mv_istore_n (lv' := [(3, .int v590), (2, .int v560), (1, .int v10), (0, .ref o0)]) d_TrustDeskModel_readClause_110 rfl (by decide) rfl ?_
                refine mv_iload_n d_TrustDeskModel_readClause_111 rfl rfl ?_
                have := mz_hi v10
                refine mv_if_eqZ (tgt := 123) (a := v10.toInt) d_TrustDeskModel_readClause_112 (by decide) rfl (fun b611 => ?_) (fun b611 => absurd b611 (by omega))
                refine mv_iload_n d_TrustDeskModel_readClause_123 rfl rfl ?_
                have := mz_hi v560
                refine mv_if_eqZ (tgt := 135) (a := v560.toInt) d_TrustDeskModel_readClause_124 (by decide) rfl (fun b612 => ?_) (fun b612 => absurd b612 (by omega))
                refine mv_aload_n d_TrustDeskModel_readClause_135 rfl rfl ?_
                obtain ⟨a614, q613, t_a614⟩ := tm_atR I588 t598 (k := 8) rfl
                refine tr_getK q613 d_TrustDeskModel_readClause_136 f_TrustDeskModel_29_13 ?_
                refine mv_iload_n d_TrustDeskModel_readClause_139 rfl rfl ?_
                refine mv_aload_n d_TrustDeskModel_readClause_140 rfl rfl ?_
                refine mv_iconst (v := 1) d_TrustDeskModel_readClause_141 (by decide) ?_
                refine mv_bipush (v := 7) d_TrustDeskModel_readClause_142 (by decide) ?_
                obtain ⟨_, b621, -⟩ := I588.1 _ _ t598
                have : (1 : Int32).toInt = 1 := by decide
                have : (7 : Int32).toInt = 7 := by decide
                refine mv_callV (kc' := 0) (ks' := 0) (As := [.int 1, .int 7]) (st9 := [.int 7, .int 1, .ref o0, .int v590, .ref a614]) d_TrustDeskModel_readClause_144 lV_TrustDeskModel_317 b621 rfl (tc_TrustDeskModel_number_x (d := (d + 23)) (x9 := x9) (o0 := o0) (x1 := 1) (x2 := 7) t598 R591 E603.1 (by have := R591.1 15 _ _ rfl; have := R591.1 16 _ _ rfl; have := R591.1 19 _ _ rfl; have := E603.f yS; omega) I588.start) rfl (Nat.le_of_ble_eq_true rfl) (Nat.le_of_ble_eq_true rfl) (Nat.le_of_ble_eq_true rfl) (hst := rfl) (fun b615r M616 n617 b615 => ?_)
                obtain ⟨T618, J619, v622, rfl, R623, f624, f625⟩ := b615
                have I620 := I588.call J619 (tm_sub (by decide)) (Or.inl rfl)
                have t626 := J619.up t598
                have t627 := J619.up t_a614
                have z628 := (rv_c I588 J619 (I588.up h_o0) (k := 22) rfl).trans z600
                have z629 := (rv_c I588 J619 (I588.up h_o0) (k := 24) rfl).trans z601
                have z630 := (ra_call I588 J619 (I588.up h_o0) (k := 5) rfl rfl rfl 44).trans z602
                have z631 := (ra_call I588 J619 (I588.up h_o0) (k := 6) rfl rfl rfl 44)
                have z632 := (ra_call I588 J619 (I588.up h_o0) (k := 7) rfl rfl rfl ((880 + ra M0 o0 6 44).toNat))
                have z633 := (ra_call I588 J619 (I588.up h_o0) (k := 10) rfl rfl rfl ((880 + ra M0 o0 6 44).toNat))
                have E634 : rE M0 M616 o0 0 2 := E603.trans f624 (by decide) (yR.2 5 _ _ rfl 44).1 (by decide) (by decide)
                have := f624.w
                have := f624.w2
                have K635 : rK M0 M616 o0 ((880 + ra M0 o0 6 44).toNat) := K605.same (sA_c I588 J619 (I588.up h_o0) (by decide))
                have K636 : nN M616 o0 := K606.same (sA_c I588 J619 (I588.up h_o0) (by decide)) (sF_c I588 J619 (I588.up h_o0) (by decide))
                clear z600 z601 z602
                have q637 := J619.keep t598 (by decide) q607
                have t638 := J619.up t608
                have q639 := J619.keep t598 (by decide) q609
                have q640 := J619.keep t598 (by decide) q613
                refine tr_iastR (k := 8) I620 R623 (I620.up h_o0) q640 t627 (by decide) (by decide) (fun lo hi h => by cases h; have := R623.1 15 _ _ rfl; have := R623.1 16 _ _ rfl; have := R623.1 19 _ _ rfl; have := E634.f yS; exact ⟨by show ((-1) : Int) ≤ v622.toInt; omega, by show v622.toInt ≤ (720 : Int); omega⟩) (Or.inl (by decide)) d_TrustDeskModel_readClause_147 (vp_in_iff.mpr (by have := R623.1 15 _ _ rfl; have := R623.1 16 _ _ rfl; have := R623.1 19 _ _ rfl; have := E634.f yS; omega)) (fun M641 I642 K643 R644 E645 A646 V647 => ?_)
                have z648 := (V647 15)
                have z649 := (V647 16)
                have z650 := (V647 17)
                have z651 := (V647 19)
                have z652 := (V647 22).trans z628
                have z653 := (V647 24).trans z629
                have z654 := (A646 5 (by decide) rfl 44).trans z630
                have z655 := (A646 6 (by decide) rfl 44).trans z631
                have z656 := (A646 7 (by decide) rfl ((880 + ra M0 o0 6 44).toNat)).trans z632
                have z657 := (A646 10 (by decide) rfl ((880 + ra M0 o0 6 44).toNat)).trans z633
                have E658 : rE M0 M641 o0 0 2 := E634.same (fun k _ _ => V647 k) (fun k h1 h2 => A646 k (by omega) (by rcases (show k = 4 ∨ k = 5 by omega) with rfl | rfl <;> rfl))
                have h659 : (880 + ra M0 o0 6 44).toNat = v590.toNatClampNeg := by have := mz_nat9 (i := v590) (by have := R623.1 15 _ _ rfl; have := R623.1 16 _ _ rfl; have := R623.1 19 _ _ rfl; have := E634.f yS; omega); have := R623.1 15 _ _ rfl; have := R623.1 16 _ _ rfl; have := R623.1 19 _ _ rfl; have := E634.f yS; omega
                have z660 : ra M641 o0 8 ((880 + ra M0 o0 6 44).toNat) = v622.toInt := (E645 _).trans (if_pos h659)
                have K661 : rK M0 M641 o0 ((880 + ra M0 o0 6 44).toNat) := K635.st A646 E645 (by have := mz_nat9 (i := v590) (by have := R623.1 15 _ _ rfl; have := R623.1 16 _ _ rfl; have := R623.1 19 _ _ rfl; have := E634.f yS; omega); have := R623.1 15 _ _ rfl; have := R623.1 16 _ _ rfl; have := R623.1 19 _ _ rfl; have := E634.f yS; omega)
                have K662 : nN M641 o0 := K636.same (sA_a A646 (by decide)) (sF_a V647)
                clear z628 z629 z630 z631 z632 z633
                refine mv_aload_n d_TrustDeskModel_readClause_148 rfl rfl ?_
                obtain ⟨a664, q663, t_a664⟩ := tm_atR I642 t626 (k := 9) rfl
                refine tr_getK q663 d_TrustDeskModel_readClause_149 f_TrustDeskModel_32_13 ?_
                refine mv_iload_n d_TrustDeskModel_readClause_152 rfl rfl ?_
                refine mv_aload_n d_TrustDeskModel_readClause_153 rfl rfl ?_
                refine mv_iconst (v := 1) d_TrustDeskModel_readClause_154 (by decide) ?_
                refine mv_aload_n d_TrustDeskModel_readClause_155 rfl rfl ?_
                refine tr_getK (k := 8) (K643 _ 13 8 _ q640) d_TrustDeskModel_readClause_156 f_TrustDeskModel_29_13 ?_
                refine mv_iload_n d_TrustDeskModel_readClause_159 rfl rfl ?_
                refine tr_ialdR (o := o0) (k := 8) I642 (K643 _ 13 8 _ q640) t627 (by decide) d_TrustDeskModel_readClause_160 (vp_in_iff.mpr (by have := R644.1 15 _ _ rfl; have := R644.1 16 _ _ rfl; have := R644.1 19 _ _ rfl; have := E658.f yS; omega)) (fun v665 e666 => ?_)
                have := R644.a (k := 8) rfl (v590 : Int32).toNatClampNeg
                have h667 : (880 + ra M0 o0 6 44).toNat = v590.toNatClampNeg := by have := mz_nat9 (i := v590) (by have := R644.1 15 _ _ rfl; have := R644.1 16 _ _ rfl; have := R644.1 19 _ _ rfl; have := E658.f yS; omega); have := R644.1 15 _ _ rfl; have := R644.1 16 _ _ rfl; have := R644.1 19 _ _ rfl; have := E658.f yS; omega
                have z668 : v665.toInt = ra M641 o0 8 ((880 + ra M0 o0 6 44).toNat) := by rw [e666, h667]
                have : v665.toInt = _ := Eq.trans z668 z660
                obtain ⟨_, b675, -⟩ := I642.1 _ _ t626
                have : (1 : Int32).toInt = 1 := by decide
                refine mv_callV (kc' := 0) (ks' := 0) (As := [.int 1, .int v665]) (st9 := [.int v665, .int 1, .ref o0, .int v590, .ref a664]) d_TrustDeskModel_readClause_161 lV_TrustDeskModel_317 b675 rfl (tc_TrustDeskModel_number_x (d := (d + 23)) (x9 := x9) (o0 := o0) (x1 := 1) (x2 := v665) t626 R644 E658.1 (by have := R644.1 15 _ _ rfl; have := R644.1 16 _ _ rfl; have := R644.1 19 _ _ rfl; have := E658.f yS; omega) I642.start) rfl (Nat.le_of_ble_eq_true rfl) (Nat.le_of_ble_eq_true rfl) (Nat.le_of_ble_eq_true rfl) (hst := rfl) (fun b669r M670 n671 b669 => ?_)
                obtain ⟨T672, J673, v676, rfl, R677, f678, f679⟩ := b669
                have I674 := I642.call J673 (tm_sub (by decide)) (Or.inl rfl)
                have t680 := J673.up t626
                have t681 := J673.up t_a664
                have z682 := (rv_c I642 J673 (I642.up h_o0) (k := 22) rfl).trans z652
                have z683 := (rv_c I642 J673 (I642.up h_o0) (k := 24) rfl).trans z653
                have z684 := (ra_call I642 J673 (I642.up h_o0) (k := 5) rfl rfl rfl 44).trans z654
                have z685 := (ra_call I642 J673 (I642.up h_o0) (k := 6) rfl rfl rfl 44).trans z655
                have z686 := (ra_call I642 J673 (I642.up h_o0) (k := 7) rfl rfl rfl ((880 + ra M0 o0 6 44).toNat)).trans z656
                have z687 := (ra_call I642 J673 (I642.up h_o0) (k := 10) rfl rfl rfl ((880 + ra M0 o0 6 44).toNat)).trans z657
                have z688 := (ra_call I642 J673 (I642.up h_o0) (k := 8) rfl rfl rfl ((880 + ra M0 o0 6 44).toNat)).trans z660
                have E689 : rE M0 M670 o0 0 3 := E658.trans f678 (by decide) (yR.2 5 _ _ rfl 44).1 (by decide) (by decide)
                have := f678.w
                have := f678.w2
                have K690 : rK M0 M670 o0 ((880 + ra M0 o0 6 44).toNat) := K661.same (sA_c I642 J673 (I642.up h_o0) (by decide))
                have K691 : nN M670 o0 := K662.same (sA_c I642 J673 (I642.up h_o0) (by decide)) (sF_c I642 J673 (I642.up h_o0) (by decide))
                clear z652 z653 z654 z655 z656 z657 z660
                have q692 := J673.keep t626 (by decide) (K643 _ 13 6 _ q637)
                have t693 := J673.up t638
                have q694 := J673.keep t626 (by decide) (K643 _ 13 24 _ q639)
                have q695 := J673.keep t626 (by decide) (K643 _ 13 8 _ q640)
                have t696 := J673.up t627
                have q697 := J673.keep t626 (by decide) q663
                refine tr_iastR (k := 9) I674 R677 (I674.up h_o0) q697 t681 (by decide) (by decide) (fun lo hi h => by cases h) (Or.inl (by decide)) d_TrustDeskModel_readClause_164 (vp_in_iff.mpr (by have := R677.1 15 _ _ rfl; have := R677.1 16 _ _ rfl; have := R677.1 19 _ _ rfl; have := E689.f yS; omega)) (fun M698 I699 K700 R701 E702 A703 V704 => ?_)
                have z705 := (V704 15)
                have z706 := (V704 16)
                have z707 := (V704 17)
                have z708 := (V704 19)
                have z709 := (V704 22).trans z682
                have z710 := (V704 24).trans z683
                have z711 := (A703 5 (by decide) rfl 44).trans z684
                have z712 := (A703 6 (by decide) rfl 44).trans z685
                have z713 := (A703 7 (by decide) rfl ((880 + ra M0 o0 6 44).toNat)).trans z686
                have z714 := (A703 10 (by decide) rfl ((880 + ra M0 o0 6 44).toNat)).trans z687
                have z715 := (A703 8 (by decide) rfl ((880 + ra M0 o0 6 44).toNat)).trans z688
                have E716 : rE M0 M698 o0 0 3 := E689.same (fun k _ _ => V704 k) (fun k h1 h2 => A703 k (by omega) (by rcases (show k = 4 ∨ k = 5 by omega) with rfl | rfl <;> rfl))
                have K717 : rK M0 M698 o0 ((880 + ra M0 o0 6 44).toNat) := K690.same (sA_a A703 (by decide))
                have K718 : nN M698 o0 := K691.same (sA_a A703 (by decide)) (sF_a V704)
                clear z682 z683 z684 z685 z686 z687 z688
                refine mv_aload_n d_TrustDeskModel_readClause_165 rfl rfl ?_
                refine mv_bipush (v := 59) d_TrustDeskModel_readClause_166 (by decide) ?_
                obtain ⟨_, b725, -⟩ := I699.1 _ _ t680
                have : (59 : Int32).toInt = 59 := by decide
                refine mv_callV (kc' := 0) (ks' := 0) (As := [.int 59]) (st9 := [.int 59, .ref o0]) d_TrustDeskModel_readClause_168 lV_TrustDeskModel_291 b725 rfl (tc_TrustDeskModel_wantSign_x (d := (d + 23)) (x9 := x9) (o0 := o0) (x1 := 59) t680 R701 E716.1 (by have := R701.1 15 _ _ rfl; have := R701.1 16 _ _ rfl; have := R701.1 19 _ _ rfl; have := E716.f yS; omega) I699.start) rfl (Nat.le_of_ble_eq_true rfl) (Nat.le_of_ble_eq_true rfl) (Nat.le_of_ble_eq_true rfl) (hst := rfl) (fun b719r M720 n721 b719 => ?_)
                obtain ⟨T722, J723, rfl, R726, f727⟩ := b719
                have I724 := I699.call J723 (tm_sub (by decide)) (Or.inl rfl)
                have t728 := J723.up t680
                have z729 := (rv_c I699 J723 (I699.up h_o0) (k := 22) rfl).trans z709
                have z730 := (rv_c I699 J723 (I699.up h_o0) (k := 24) rfl).trans z710
                have z731 := (ra_call I699 J723 (I699.up h_o0) (k := 5) rfl rfl rfl 44).trans z711
                have z732 := (ra_call I699 J723 (I699.up h_o0) (k := 6) rfl rfl rfl 44).trans z712
                have z733 := (ra_call I699 J723 (I699.up h_o0) (k := 7) rfl rfl rfl ((880 + ra M0 o0 6 44).toNat)).trans z713
                have z734 := (ra_call I699 J723 (I699.up h_o0) (k := 10) rfl rfl rfl ((880 + ra M0 o0 6 44).toNat)).trans z714
                have z735 := (ra_call I699 J723 (I699.up h_o0) (k := 8) rfl rfl rfl ((880 + ra M0 o0 6 44).toNat)).trans z715
                have E736 : rE M0 M720 o0 0 4 := E716.trans f727 (by decide) (yR.2 5 _ _ rfl 44).1 (by decide) (by decide)
                have := f727.w
                have := f727.w2
                have K737 : rK M0 M720 o0 ((880 + ra M0 o0 6 44).toNat) := K717.same (sA_c I699 J723 (I699.up h_o0) (by decide))
                have K738 : nN M720 o0 := K718.same (sA_c I699 J723 (I699.up h_o0) (by decide)) (sF_c I699 J723 (I699.up h_o0) (by decide))
                clear z709 z710 z711 z712 z713 z714 z715
                have q739 := J723.keep t680 (by decide) (K700 _ 13 6 _ q692)
                have t740 := J723.up t693
                have q741 := J723.keep t680 (by decide) (K700 _ 13 24 _ q694)
                have q742 := J723.keep t680 (by decide) (K700 _ 13 8 _ q695)
                have t743 := J723.up t696
                have q744 := J723.keep t680 (by decide) (K700 _ 13 9 _ q697)
                have t745 := J723.up t681
                refine mv_aload_n d_TrustDeskModel_readClause_171 rfl rfl ?_
                obtain ⟨a747, q746, t_a747⟩ := tm_atR I724 t728 (k := 12) rfl
                refine tr_getK q746 d_TrustDeskModel_readClause_172 f_TrustDeskModel_41_13 ?_
                refine mv_iload_n d_TrustDeskModel_readClause_175 rfl rfl ?_
                refine mv_aload_n d_TrustDeskModel_readClause_176 rfl rfl ?_
                obtain ⟨a749, q748, t_a749⟩ := tm_atR I724 t728 (k := 5) rfl
                refine tr_getK q748 d_TrustDeskModel_readClause_177 f_TrustDeskModel_20_13 ?_
                refine mv_bipush (v := 44) d_TrustDeskModel_readClause_180 (by decide) ?_
                refine tr_ialdR (o := o0) (k := 5) I724 q748 t_a749 (by decide) d_TrustDeskModel_readClause_182 (by unfold vp_in; decide) (fun v750 e751 => ?_)
                have := R726.a (k := 5) rfl (44 : Int32).toNatClampNeg
                have : v750.toInt = ra M720 o0 5 44 := e751
                have : v750.toInt = _ := Eq.trans e751 z731
                refine tr_iastR (k := 12) I724 R726 (I724.up h_o0) q746 t_a747 (by decide) (by decide) (fun lo hi h => by cases h; have := R726.1 15 _ _ rfl; have := R726.1 16 _ _ rfl; have := R726.1 19 _ _ rfl; have := E736.f yS; exact ⟨by show (0 : Int) ≤ v750.toInt; omega, by show v750.toInt ≤ (400 : Int); omega⟩) (Or.inl (by decide)) d_TrustDeskModel_readClause_183 (vp_in_iff.mpr (by have := R726.1 15 _ _ rfl; have := R726.1 16 _ _ rfl; have := R726.1 19 _ _ rfl; have := E736.f yS; omega)) (fun M752 I753 K754 R755 E756 A757 V758 => ?_)
                have z759 := (V758 15)
                have z760 := (V758 16)
                have z761 := (V758 17)
                have z762 := (V758 19)
                have z763 := (V758 22).trans z729
                have z764 := (V758 24).trans z730
                have z765 := (A757 5 (by decide) rfl 44).trans z731
                have z766 := (A757 6 (by decide) rfl 44).trans z732
                have z767 := (A757 7 (by decide) rfl ((880 + ra M0 o0 6 44).toNat)).trans z733
                have z768 := (A757 10 (by decide) rfl ((880 + ra M0 o0 6 44).toNat)).trans z734
                have z769 := (A757 8 (by decide) rfl ((880 + ra M0 o0 6 44).toNat)).trans z735
                have E770 : rE M0 M752 o0 0 4 := E736.same (fun k _ _ => V758 k) (fun k h1 h2 => A757 k (by omega) (by rcases (show k = 4 ∨ k = 5 by omega) with rfl | rfl <;> rfl))
                have h771 : (880 + ra M0 o0 6 44).toNat = v590.toNatClampNeg := by have := mz_nat9 (i := v590) (by have := R726.1 15 _ _ rfl; have := R726.1 16 _ _ rfl; have := R726.1 19 _ _ rfl; have := E736.f yS; omega); have := R726.1 15 _ _ rfl; have := R726.1 16 _ _ rfl; have := R726.1 19 _ _ rfl; have := E736.f yS; omega
                have z772 : ra M752 o0 12 ((880 + ra M0 o0 6 44).toNat) = v750.toInt := (E756 _).trans (if_pos h771)
                have K773 : rK M0 M752 o0 ((880 + ra M0 o0 6 44).toNat) := K737.st A757 E756 (by have := mz_nat9 (i := v590) (by have := R726.1 15 _ _ rfl; have := R726.1 16 _ _ rfl; have := R726.1 19 _ _ rfl; have := E736.f yS; omega); have := R726.1 15 _ _ rfl; have := R726.1 16 _ _ rfl; have := R726.1 19 _ _ rfl; have := E736.f yS; omega)
                have K774 : nN M752 o0 := K738.same (sA_a A757 (by decide)) (sF_a V758)
                clear z729 z730 z731 z732 z733 z734 z735
                exact mv_vret d_TrustDeskModel_readClause_184 rfl ⟨_, I753, rfl, R755, (rW.of E770.1 (fun w9 => (by have := R755.1 15 _ _ rfl; have := R755.1 16 _ _ rfl; have := R755.1 19 _ _ rfl; have := E770.f yS; omega)) (fun w9 => rG.step yG yR E770 w9 K773 (by have := yR.2 6 _ _ rfl 44; omega) (by have := R755.1 15 _ _ rfl; have := R755.1 16 _ _ rfl; have := R755.1 19 _ _ rfl; have := E770.f yS; omega) (by have := R755.1 15 _ _ rfl; have := R755.1 16 _ _ rfl; have := R755.1 19 _ _ rfl; have := E770.f yS; omega) (fun h9 => by exfalso; have := R755.1 15 _ _ rfl; have := R755.1 16 _ _ rfl; have := R755.1 19 _ _ rfl; have := E770.f yS; omega) (fun h9 => (by have := R755.1 15 _ _ rfl; have := R755.1 16 _ _ rfl; have := R755.1 19 _ _ rfl; have := E770.f yS; omega)) (by have := R755.1 15 _ _ rfl; have := R755.1 16 _ _ rfl; have := R755.1 19 _ _ rfl; have := E770.f yS; omega) K774)), (rO.of E770 K773 (by have := yR.2 6 _ _ rfl 44; omega)), (by have := R755.1 15 _ _ rfl; have := R755.1 16 _ _ rfl; have := R755.1 19 _ _ rfl; have := E770.f yS; omega), (by have := R755.1 15 _ _ rfl; have := R755.1 16 _ _ rfl; have := R755.1 19 _ _ rfl; have := E770.f yS; omega), (fun h9 _ => absurd h9 (f16 (by have := R755.1 15 _ _ rfl; have := R755.1 16 _ _ rfl; have := R755.1 19 _ _ rfl; have := E770.f yS; omega)))⟩
              · refine mv_bipush (v := 7) d_TrustDeskModel_readClause_100 (by decide) ?_
                refine mv_goto (tgt := 107) d_TrustDeskModel_readClause_102 (by decide) ?_
                obtain ⟨_, b781, -⟩ := I558.1 _ _ t565
                have : (7 : Int32).toInt = 7 := by decide
                refine mv_callV (kc' := 0) (ks' := 0) (As := [.int 7]) (st9 := [.int 7, .ref o0]) d_TrustDeskModel_readClause_107 lV_TrustDeskModel_342 b781 rfl (tc_TrustDeskModel_begin_x (d := (d + 23)) (x9 := x9) (o0 := o0) (x1 := 7) t565 R563 E574.1 (by have := R563.1 15 _ _ rfl; have := R563.1 16 _ _ rfl; have := R563.1 19 _ _ rfl; have := E574.f yS; omega) (by have := R563.1 15 _ _ rfl; have := R563.1 16 _ _ rfl; have := R563.1 19 _ _ rfl; have := E574.f yS; omega) (by have := R563.1 15 _ _ rfl; have := R563.1 16 _ _ rfl; have := R563.1 19 _ _ rfl; have := E574.f yS; omega) (by have := R563.1 15 _ _ rfl; have := R563.1 16 _ _ rfl; have := R563.1 19 _ _ rfl; have := E574.f yS; omega) I558.start) rfl (Nat.le_of_ble_eq_true rfl) (Nat.le_of_ble_eq_true rfl) (Nat.le_of_ble_eq_true rfl) (hst := rfl) (fun b775r M776 n777 b775 => ?_)
                obtain ⟨T778, J779, v782, rfl, R783, f784, f785, f786, f787, f788, f789⟩ := b775
                have I780 := I558.call J779 (tm_sub (by decide)) (Or.inl rfl)
                have t790 := J779.up t565
                have z791 := (rv_c I558 J779 (I558.up h_o0) (k := 19) rfl).trans z569
                have z792 := (rv_c I558 J779 (I558.up h_o0) (k := 22) rfl).trans z570
                have z793 := (rv_c I558 J779 (I558.up h_o0) (k := 24) rfl).trans z571
                have z794 := (ra_call I558 J779 (I558.up h_o0) (k := 5) rfl rfl rfl 44).trans z572
                have E795 : rE M0 M776 o0 0 1 := E574.trans f784 (by decide) (yR.2 5 _ _ rfl 44).1 (by decide) (by decide)
                have := f784.w
                have := f784.w2
                have h796 : (880 + ra M554 o0 6 44).toNat = (880 + ra M0 o0 6 44).toNat := by omega
                rw [h796] at f787 f788 f789
                have K797 : rK M0 M776 o0 ((880 + ra M0 o0 6 44).toNat) := K575.trans f789
                have K798 : nN M776 o0 := K576.same (sA_c I558 J779 (I558.up h_o0) (by decide)) (sF_c I558 J779 (I558.up h_o0) (by decide))
                clear z569 z570 z571
                have q799 := J779.keep t565 (by decide) q577
                have t800 := J779.up t578
                have q801 := J779.keep t565 (by decide) q579
                have q802 := J779.keep t565 (by decide) q580
                refine mv_istore_n (lv' := [(3, .int v782), (2, .int v560), (1, .int v10), (0, .ref o0)]) d_TrustDeskModel_readClause_110 rfl (by decide) rfl ?_
                refine mv_iload_n d_TrustDeskModel_readClause_111 rfl rfl ?_
                have := mz_hi v10
                refine mv_if_eqZ (tgt := 123) (a := v10.toInt) d_TrustDeskModel_readClause_112 (by decide) rfl (fun b803 => ?_) (fun b803 => absurd b803 (by omega))
                refine mv_iload_n d_TrustDeskModel_readClause_123 rfl rfl ?_
                have := mz_hi v560
                refine mv_if_eqZ (tgt := 135) (a := v560.toInt) d_TrustDeskModel_readClause_124 (by decide) rfl (fun b804 => ?_) (fun b804 => ?_)
                · refine mv_aload_n d_TrustDeskModel_readClause_135 rfl rfl ?_
                  obtain ⟨a806, q805, t_a806⟩ := tm_atR I780 t790 (k := 8) rfl
                  refine tr_getK q805 d_TrustDeskModel_readClause_136 f_TrustDeskModel_29_13 ?_
                  refine mv_iload_n d_TrustDeskModel_readClause_139 rfl rfl ?_
                  refine mv_aload_n d_TrustDeskModel_readClause_140 rfl rfl ?_
                  refine mv_iconst (v := 1) d_TrustDeskModel_readClause_141 (by decide) ?_
                  refine mv_bipush (v := 7) d_TrustDeskModel_readClause_142 (by decide) ?_
                  obtain ⟨_, b813, -⟩ := I780.1 _ _ t790
                  have : (1 : Int32).toInt = 1 := by decide
                  have : (7 : Int32).toInt = 7 := by decide
                  refine mv_callV (kc' := 0) (ks' := 0) (As := [.int 1, .int 7]) (st9 := [.int 7, .int 1, .ref o0, .int v782, .ref a806]) d_TrustDeskModel_readClause_144 lV_TrustDeskModel_317 b813 rfl (tc_TrustDeskModel_number_x (d := (d + 23)) (x9 := x9) (o0 := o0) (x1 := 1) (x2 := 7) t790 R783 E795.1 (by have := R783.1 15 _ _ rfl; have := R783.1 16 _ _ rfl; have := R783.1 19 _ _ rfl; have := E795.f yS; omega) I780.start) rfl (Nat.le_of_ble_eq_true rfl) (Nat.le_of_ble_eq_true rfl) (Nat.le_of_ble_eq_true rfl) (hst := rfl) (fun b807r M808 n809 b807 => ?_)
                  obtain ⟨T810, J811, v814, rfl, R815, f816, f817⟩ := b807
                  have I812 := I780.call J811 (tm_sub (by decide)) (Or.inl rfl)
                  have t818 := J811.up t790
                  have t819 := J811.up t_a806
                  have z820 := (rv_c I780 J811 (I780.up h_o0) (k := 22) rfl).trans z792
                  have z821 := (rv_c I780 J811 (I780.up h_o0) (k := 24) rfl).trans z793
                  have z822 := (ra_call I780 J811 (I780.up h_o0) (k := 5) rfl rfl rfl 44).trans z794
                  have z823 := (ra_call I780 J811 (I780.up h_o0) (k := 6) rfl rfl rfl 44)
                  have z824 := (ra_call I780 J811 (I780.up h_o0) (k := 7) rfl rfl rfl ((880 + ra M0 o0 6 44).toNat))
                  have z825 := (ra_call I780 J811 (I780.up h_o0) (k := 10) rfl rfl rfl ((880 + ra M0 o0 6 44).toNat))
                  have E826 : rE M0 M808 o0 0 2 := E795.trans f816 (by decide) (yR.2 5 _ _ rfl 44).1 (by decide) (by decide)
                  have := f816.w
                  have := f816.w2
                  have K827 : rK M0 M808 o0 ((880 + ra M0 o0 6 44).toNat) := K797.same (sA_c I780 J811 (I780.up h_o0) (by decide))
                  have K828 : nN M808 o0 := K798.same (sA_c I780 J811 (I780.up h_o0) (by decide)) (sF_c I780 J811 (I780.up h_o0) (by decide))
                  clear z792 z793 z794
                  have q829 := J811.keep t790 (by decide) q799
                  have t830 := J811.up t800
                  have q831 := J811.keep t790 (by decide) q801
                  have q832 := J811.keep t790 (by decide) q805
                  refine tr_iastR (k := 8) I812 R815 (I812.up h_o0) q832 t819 (by decide) (by decide) (fun lo hi h => by cases h; have := R815.1 15 _ _ rfl; have := R815.1 16 _ _ rfl; have := R815.1 19 _ _ rfl; have := E826.f yS; exact ⟨by show ((-1) : Int) ≤ v814.toInt; omega, by show v814.toInt ≤ (720 : Int); omega⟩) (Or.inl (by decide)) d_TrustDeskModel_readClause_147 (vp_in_iff.mpr (by have := R815.1 15 _ _ rfl; have := R815.1 16 _ _ rfl; have := R815.1 19 _ _ rfl; have := E826.f yS; omega)) (fun M833 I834 K835 R836 E837 A838 V839 => ?_)
                  have z840 := (V839 15)
                  have z841 := (V839 16)
                  have z842 := (V839 17)
                  have z843 := (V839 19)
                  have z844 := (V839 22).trans z820
                  have z845 := (V839 24).trans z821
                  have z846 := (A838 5 (by decide) rfl 44).trans z822
                  have z847 := (A838 6 (by decide) rfl 44).trans z823
                  have z848 := (A838 7 (by decide) rfl ((880 + ra M0 o0 6 44).toNat)).trans z824
                  have z849 := (A838 10 (by decide) rfl ((880 + ra M0 o0 6 44).toNat)).trans z825
                  have E850 : rE M0 M833 o0 0 2 := E826.same (fun k _ _ => V839 k) (fun k h1 h2 => A838 k (by omega) (by rcases (show k = 4 ∨ k = 5 by omega) with rfl | rfl <;> rfl))
                  have h851 : (880 + ra M0 o0 6 44).toNat = v782.toNatClampNeg := by have := mz_nat9 (i := v782) (by have := R815.1 15 _ _ rfl; have := R815.1 16 _ _ rfl; have := R815.1 19 _ _ rfl; have := E826.f yS; omega); have := R815.1 15 _ _ rfl; have := R815.1 16 _ _ rfl; have := R815.1 19 _ _ rfl; have := E826.f yS; omega
                  have z852 : ra M833 o0 8 ((880 + ra M0 o0 6 44).toNat) = v814.toInt := (E837 _).trans (if_pos h851)
                  have K853 : rK M0 M833 o0 ((880 + ra M0 o0 6 44).toNat) := K827.st A838 E837 (by have := mz_nat9 (i := v782) (by have := R815.1 15 _ _ rfl; have := R815.1 16 _ _ rfl; have := R815.1 19 _ _ rfl; have := E826.f yS; omega); have := R815.1 15 _ _ rfl; have := R815.1 16 _ _ rfl; have := R815.1 19 _ _ rfl; have := E826.f yS; omega)
                  have K854 : nN M833 o0 := K828.same (sA_a A838 (by decide)) (sF_a V839)
                  clear z820 z821 z822 z823 z824 z825
                  refine mv_aload_n d_TrustDeskModel_readClause_148 rfl rfl ?_
                  obtain ⟨a856, q855, t_a856⟩ := tm_atR I834 t818 (k := 9) rfl
                  refine tr_getK q855 d_TrustDeskModel_readClause_149 f_TrustDeskModel_32_13 ?_
                  refine mv_iload_n d_TrustDeskModel_readClause_152 rfl rfl ?_
                  refine mv_aload_n d_TrustDeskModel_readClause_153 rfl rfl ?_
                  refine mv_iconst (v := 1) d_TrustDeskModel_readClause_154 (by decide) ?_
                  refine mv_aload_n d_TrustDeskModel_readClause_155 rfl rfl ?_
                  refine tr_getK (k := 8) (K835 _ 13 8 _ q832) d_TrustDeskModel_readClause_156 f_TrustDeskModel_29_13 ?_
                  refine mv_iload_n d_TrustDeskModel_readClause_159 rfl rfl ?_
                  refine tr_ialdR (o := o0) (k := 8) I834 (K835 _ 13 8 _ q832) t819 (by decide) d_TrustDeskModel_readClause_160 (vp_in_iff.mpr (by have := R836.1 15 _ _ rfl; have := R836.1 16 _ _ rfl; have := R836.1 19 _ _ rfl; have := E850.f yS; omega)) (fun v857 e858 => ?_)
                  have := R836.a (k := 8) rfl (v782 : Int32).toNatClampNeg
                  have h859 : (880 + ra M0 o0 6 44).toNat = v782.toNatClampNeg := by have := mz_nat9 (i := v782) (by have := R836.1 15 _ _ rfl; have := R836.1 16 _ _ rfl; have := R836.1 19 _ _ rfl; have := E850.f yS; omega); have := R836.1 15 _ _ rfl; have := R836.1 16 _ _ rfl; have := R836.1 19 _ _ rfl; have := E850.f yS; omega
                  have z860 : v857.toInt = ra M833 o0 8 ((880 + ra M0 o0 6 44).toNat) := by rw [e858, h859]
                  have : v857.toInt = _ := Eq.trans z860 z852
                  obtain ⟨_, b867, -⟩ := I834.1 _ _ t818
                  have : (1 : Int32).toInt = 1 := by decide
                  refine mv_callV (kc' := 0) (ks' := 0) (As := [.int 1, .int v857]) (st9 := [.int v857, .int 1, .ref o0, .int v782, .ref a856]) d_TrustDeskModel_readClause_161 lV_TrustDeskModel_317 b867 rfl (tc_TrustDeskModel_number_x (d := (d + 23)) (x9 := x9) (o0 := o0) (x1 := 1) (x2 := v857) t818 R836 E850.1 (by have := R836.1 15 _ _ rfl; have := R836.1 16 _ _ rfl; have := R836.1 19 _ _ rfl; have := E850.f yS; omega) I834.start) rfl (Nat.le_of_ble_eq_true rfl) (Nat.le_of_ble_eq_true rfl) (Nat.le_of_ble_eq_true rfl) (hst := rfl) (fun b861r M862 n863 b861 => ?_)
                  obtain ⟨T864, J865, v868, rfl, R869, f870, f871⟩ := b861
                  have I866 := I834.call J865 (tm_sub (by decide)) (Or.inl rfl)
                  have t872 := J865.up t818
                  have t873 := J865.up t_a856
                  have z874 := (rv_c I834 J865 (I834.up h_o0) (k := 22) rfl).trans z844
                  have z875 := (rv_c I834 J865 (I834.up h_o0) (k := 24) rfl).trans z845
                  have z876 := (ra_call I834 J865 (I834.up h_o0) (k := 5) rfl rfl rfl 44).trans z846
                  have z877 := (ra_call I834 J865 (I834.up h_o0) (k := 6) rfl rfl rfl 44).trans z847
                  have z878 := (ra_call I834 J865 (I834.up h_o0) (k := 7) rfl rfl rfl ((880 + ra M0 o0 6 44).toNat)).trans z848
                  have z879 := (ra_call I834 J865 (I834.up h_o0) (k := 10) rfl rfl rfl ((880 + ra M0 o0 6 44).toNat)).trans z849
                  have z880 := (ra_call I834 J865 (I834.up h_o0) (k := 8) rfl rfl rfl ((880 + ra M0 o0 6 44).toNat)).trans z852
                  have E881 : rE M0 M862 o0 0 3 := E850.trans f870 (by decide) (yR.2 5 _ _ rfl 44).1 (by decide) (by decide)
                  have := f870.w
                  have := f870.w2
                  have K882 : rK M0 M862 o0 ((880 + ra M0 o0 6 44).toNat) := K853.same (sA_c I834 J865 (I834.up h_o0) (by decide))
                  have K883 : nN M862 o0 := K854.same (sA_c I834 J865 (I834.up h_o0) (by decide)) (sF_c I834 J865 (I834.up h_o0) (by decide))
                  clear z844 z845 z846 z847 z848 z849 z852
                  have q884 := J865.keep t818 (by decide) (K835 _ 13 6 _ q829)
                  have t885 := J865.up t830
                  have q886 := J865.keep t818 (by decide) (K835 _ 13 24 _ q831)
                  have q887 := J865.keep t818 (by decide) (K835 _ 13 8 _ q832)
                  have t888 := J865.up t819
                  have q889 := J865.keep t818 (by decide) q855
                  refine tr_iastR (k := 9) I866 R869 (I866.up h_o0) q889 t873 (by decide) (by decide) (fun lo hi h => by cases h) (Or.inl (by decide)) d_TrustDeskModel_readClause_164 (vp_in_iff.mpr (by have := R869.1 15 _ _ rfl; have := R869.1 16 _ _ rfl; have := R869.1 19 _ _ rfl; have := E881.f yS; omega)) (fun M890 I891 K892 R893 E894 A895 V896 => ?_)
                  have z897 := (V896 15)
                  have z898 := (V896 16)
                  have z899 := (V896 17)
                  have z900 := (V896 19)
                  have z901 := (V896 22).trans z874
                  have z902 := (V896 24).trans z875
                  have z903 := (A895 5 (by decide) rfl 44).trans z876
                  have z904 := (A895 6 (by decide) rfl 44).trans z877
                  have z905 := (A895 7 (by decide) rfl ((880 + ra M0 o0 6 44).toNat)).trans z878
                  have z906 := (A895 10 (by decide) rfl ((880 + ra M0 o0 6 44).toNat)).trans z879
                  have z907 := (A895 8 (by decide) rfl ((880 + ra M0 o0 6 44).toNat)).trans z880
                  have E908 : rE M0 M890 o0 0 3 := E881.same (fun k _ _ => V896 k) (fun k h1 h2 => A895 k (by omega) (by rcases (show k = 4 ∨ k = 5 by omega) with rfl | rfl <;> rfl))
                  have K909 : rK M0 M890 o0 ((880 + ra M0 o0 6 44).toNat) := K882.same (sA_a A895 (by decide))
                  have K910 : nN M890 o0 := K883.same (sA_a A895 (by decide)) (sF_a V896)
                  clear z874 z875 z876 z877 z878 z879 z880
                  refine mv_aload_n d_TrustDeskModel_readClause_165 rfl rfl ?_
                  refine mv_bipush (v := 59) d_TrustDeskModel_readClause_166 (by decide) ?_
                  obtain ⟨_, b917, -⟩ := I891.1 _ _ t872
                  have : (59 : Int32).toInt = 59 := by decide
                  refine mv_callV (kc' := 0) (ks' := 0) (As := [.int 59]) (st9 := [.int 59, .ref o0]) d_TrustDeskModel_readClause_168 lV_TrustDeskModel_291 b917 rfl (tc_TrustDeskModel_wantSign_x (d := (d + 23)) (x9 := x9) (o0 := o0) (x1 := 59) t872 R893 E908.1 (by have := R893.1 15 _ _ rfl; have := R893.1 16 _ _ rfl; have := R893.1 19 _ _ rfl; have := E908.f yS; omega) I891.start) rfl (Nat.le_of_ble_eq_true rfl) (Nat.le_of_ble_eq_true rfl) (Nat.le_of_ble_eq_true rfl) (hst := rfl) (fun b911r M912 n913 b911 => ?_)
                  obtain ⟨T914, J915, rfl, R918, f919⟩ := b911
                  have I916 := I891.call J915 (tm_sub (by decide)) (Or.inl rfl)
                  have t920 := J915.up t872
                  have z921 := (rv_c I891 J915 (I891.up h_o0) (k := 22) rfl).trans z901
                  have z922 := (rv_c I891 J915 (I891.up h_o0) (k := 24) rfl).trans z902
                  have z923 := (ra_call I891 J915 (I891.up h_o0) (k := 5) rfl rfl rfl 44).trans z903
                  have z924 := (ra_call I891 J915 (I891.up h_o0) (k := 6) rfl rfl rfl 44).trans z904
                  have z925 := (ra_call I891 J915 (I891.up h_o0) (k := 7) rfl rfl rfl ((880 + ra M0 o0 6 44).toNat)).trans z905
                  have z926 := (ra_call I891 J915 (I891.up h_o0) (k := 10) rfl rfl rfl ((880 + ra M0 o0 6 44).toNat)).trans z906
                  have z927 := (ra_call I891 J915 (I891.up h_o0) (k := 8) rfl rfl rfl ((880 + ra M0 o0 6 44).toNat)).trans z907
                  have E928 : rE M0 M912 o0 0 4 := E908.trans f919 (by decide) (yR.2 5 _ _ rfl 44).1 (by decide) (by decide)
                  have := f919.w
                  have := f919.w2
                  have K929 : rK M0 M912 o0 ((880 + ra M0 o0 6 44).toNat) := K909.same (sA_c I891 J915 (I891.up h_o0) (by decide))
                  have K930 : nN M912 o0 := K910.same (sA_c I891 J915 (I891.up h_o0) (by decide)) (sF_c I891 J915 (I891.up h_o0) (by decide))
                  clear z901 z902 z903 z904 z905 z906 z907
                  have q931 := J915.keep t872 (by decide) (K892 _ 13 6 _ q884)
                  have t932 := J915.up t885
                  have q933 := J915.keep t872 (by decide) (K892 _ 13 24 _ q886)
                  have q934 := J915.keep t872 (by decide) (K892 _ 13 8 _ q887)
                  have t935 := J915.up t888
                  have q936 := J915.keep t872 (by decide) (K892 _ 13 9 _ q889)
                  have t937 := J915.up t873
                  refine mv_aload_n d_TrustDeskModel_readClause_171 rfl rfl ?_
                  obtain ⟨a939, q938, t_a939⟩ := tm_atR I916 t920 (k := 12) rfl
                  refine tr_getK q938 d_TrustDeskModel_readClause_172 f_TrustDeskModel_41_13 ?_
                  refine mv_iload_n d_TrustDeskModel_readClause_175 rfl rfl ?_
                  refine mv_aload_n d_TrustDeskModel_readClause_176 rfl rfl ?_
                  obtain ⟨a941, q940, t_a941⟩ := tm_atR I916 t920 (k := 5) rfl
                  refine tr_getK q940 d_TrustDeskModel_readClause_177 f_TrustDeskModel_20_13 ?_
                  refine mv_bipush (v := 44) d_TrustDeskModel_readClause_180 (by decide) ?_
                  refine tr_ialdR (o := o0) (k := 5) I916 q940 t_a941 (by decide) d_TrustDeskModel_readClause_182 (by unfold vp_in; decide) (fun v942 e943 => ?_)
                  have := R918.a (k := 5) rfl (44 : Int32).toNatClampNeg
                  have : v942.toInt = ra M912 o0 5 44 := e943
                  have : v942.toInt = _ := Eq.trans e943 z923
                  refine tr_iastR (k := 12) I916 R918 (I916.up h_o0) q938 t_a939 (by decide) (by decide) (fun lo hi h => by cases h; have := R918.1 15 _ _ rfl; have := R918.1 16 _ _ rfl; have := R918.1 19 _ _ rfl; have := E928.f yS; exact ⟨by show (0 : Int) ≤ v942.toInt; omega, by show v942.toInt ≤ (400 : Int); omega⟩) (Or.inl (by decide)) d_TrustDeskModel_readClause_183 (vp_in_iff.mpr (by have := R918.1 15 _ _ rfl; have := R918.1 16 _ _ rfl; have := R918.1 19 _ _ rfl; have := E928.f yS; omega)) (fun M944 I945 K946 R947 E948 A949 V950 => ?_)
                  have z951 := (V950 15)
                  have z952 := (V950 16)
                  have z953 := (V950 17)
                  have z954 := (V950 19)
                  have z955 := (V950 22).trans z921
                  have z956 := (V950 24).trans z922
                  have z957 := (A949 5 (by decide) rfl 44).trans z923
                  have z958 := (A949 6 (by decide) rfl 44).trans z924
                  have z959 := (A949 7 (by decide) rfl ((880 + ra M0 o0 6 44).toNat)).trans z925
                  have z960 := (A949 10 (by decide) rfl ((880 + ra M0 o0 6 44).toNat)).trans z926
                  have z961 := (A949 8 (by decide) rfl ((880 + ra M0 o0 6 44).toNat)).trans z927
                  have E962 : rE M0 M944 o0 0 4 := E928.same (fun k _ _ => V950 k) (fun k h1 h2 => A949 k (by omega) (by rcases (show k = 4 ∨ k = 5 by omega) with rfl | rfl <;> rfl))
                  have h963 : (880 + ra M0 o0 6 44).toNat = v782.toNatClampNeg := by have := mz_nat9 (i := v782) (by have := R918.1 15 _ _ rfl; have := R918.1 16 _ _ rfl; have := R918.1 19 _ _ rfl; have := E928.f yS; omega); have := R918.1 15 _ _ rfl; have := R918.1 16 _ _ rfl; have := R918.1 19 _ _ rfl; have := E928.f yS; omega
                  have z964 : ra M944 o0 12 ((880 + ra M0 o0 6 44).toNat) = v942.toInt := (E948 _).trans (if_pos h963)
                  have K965 : rK M0 M944 o0 ((880 + ra M0 o0 6 44).toNat) := K929.st A949 E948 (by have := mz_nat9 (i := v782) (by have := R918.1 15 _ _ rfl; have := R918.1 16 _ _ rfl; have := R918.1 19 _ _ rfl; have := E928.f yS; omega); have := R918.1 15 _ _ rfl; have := R918.1 16 _ _ rfl; have := R918.1 19 _ _ rfl; have := E928.f yS; omega)
                  have K966 : nN M944 o0 := K930.same (sA_a A949 (by decide)) (sF_a V950)
                  clear z921 z922 z923 z924 z925 z926 z927
                  exact mv_vret d_TrustDeskModel_readClause_184 rfl ⟨_, I945, rfl, R947, (rW.of E962.1 (fun w9 => (by have := R947.1 15 _ _ rfl; have := R947.1 16 _ _ rfl; have := R947.1 19 _ _ rfl; have := E962.f yS; omega)) (fun w9 => rG.step yG yR E962 w9 K965 (by have := yR.2 6 _ _ rfl 44; omega) (by have := R947.1 15 _ _ rfl; have := R947.1 16 _ _ rfl; have := R947.1 19 _ _ rfl; have := E962.f yS; omega) (by have := R947.1 15 _ _ rfl; have := R947.1 16 _ _ rfl; have := R947.1 19 _ _ rfl; have := E962.f yS; omega) (fun h9 => by exfalso; have := R947.1 15 _ _ rfl; have := R947.1 16 _ _ rfl; have := R947.1 19 _ _ rfl; have := E962.f yS; omega) (fun h9 => (by have := R947.1 15 _ _ rfl; have := R947.1 16 _ _ rfl; have := R947.1 19 _ _ rfl; have := E962.f yS; omega)) (by have := R947.1 15 _ _ rfl; have := R947.1 16 _ _ rfl; have := R947.1 19 _ _ rfl; have := E962.f yS; omega) K966)), (rO.of E962 K965 (by have := yR.2 6 _ _ rfl 44; omega)), (by have := R947.1 15 _ _ rfl; have := R947.1 16 _ _ rfl; have := R947.1 19 _ _ rfl; have := E962.f yS; omega), (by have := R947.1 15 _ _ rfl; have := R947.1 16 _ _ rfl; have := R947.1 19 _ _ rfl; have := E962.f yS; omega), (fun h9 _ => absurd h9 (f16 (by have := R947.1 15 _ _ rfl; have := R947.1 16 _ _ rfl; have := R947.1 19 _ _ rfl; have := E962.f yS; omega)))⟩
                · refine mv_aload_n d_TrustDeskModel_readClause_127 rfl rfl ?_
                  refine mv_iload_n d_TrustDeskModel_readClause_128 rfl rfl ?_
                  obtain ⟨_, b973, -⟩ := I780.1 _ _ t790
                  refine mv_callV (kc' := 0) (ks' := 0) (As := [.int v782]) (st9 := [.int v782, .ref o0]) d_TrustDeskModel_readClause_129 lV_TrustDeskModel_348 b973 rfl (tc_TrustDeskModel_readMarks_x (d := (d + 22)) (x9 := x9) (o0 := o0) (x1 := v782) t790 R783 E795.1 (by have := R783.1 15 _ _ rfl; have := R783.1 16 _ _ rfl; have := R783.1 19 _ _ rfl; have := E795.f yS; omega) (by have := R783.1 15 _ _ rfl; have := R783.1 16 _ _ rfl; have := R783.1 19 _ _ rfl; have := E795.f yS; omega) I780.start) rfl (Nat.le_of_ble_eq_true rfl) (Nat.le_of_ble_eq_true rfl) (Nat.le_of_ble_eq_true rfl) (hst := rfl) (fun b967r M968 n969 b967 => ?_)
                  obtain ⟨T970, J971, rfl, R974, f975, f976, f977⟩ := b967
                  have I972 := I780.call J971 (tm_sub (by decide)) (Or.inl rfl)
                  have t978 := J971.up t790
                  have z979 := (rv_c I780 J971 (I780.up h_o0) (k := 22) rfl).trans z792
                  have z980 := (rv_c I780 J971 (I780.up h_o0) (k := 24) rfl).trans z793
                  have z981 := (ra_call I780 J971 (I780.up h_o0) (k := 5) rfl rfl rfl 44).trans z794
                  have z982 := (ra_call I780 J971 (I780.up h_o0) (k := 6) rfl rfl rfl 44)
                  have z983 := (ra_call I780 J971 (I780.up h_o0) (k := 7) rfl rfl rfl ((880 + ra M0 o0 6 44).toNat))
                  have z984 := (ra_call I780 J971 (I780.up h_o0) (k := 10) rfl rfl rfl ((880 + ra M0 o0 6 44).toNat))
                  have E985 : rE M0 M968 o0 0 1 := E795.trans f975 (by decide) (yR.2 5 _ _ rfl 44).1 (by decide) (by decide)
                  have := f975.w
                  have := f975.w2
                  have h986 : v782.toNatClampNeg = (880 + ra M0 o0 6 44).toNat := by have := mz_nat9 (i := v782) (by have := R783.1 15 _ _ rfl; have := R783.1 16 _ _ rfl; have := R783.1 19 _ _ rfl; have := E795.f yS; omega); have := R783.1 15 _ _ rfl; have := R783.1 16 _ _ rfl; have := R783.1 19 _ _ rfl; have := E795.f yS; omega
                  rw [h986] at f976 f977
                  have K987 : rK M0 M968 o0 ((880 + ra M0 o0 6 44).toNat) := K797.one8 (sA_c I780 J971 (I780.up h_o0) (by decide)) f976
                  have K988 : nN M968 o0 := K798.same (sA_c I780 J971 (I780.up h_o0) (by decide)) (sF_c I780 J971 (I780.up h_o0) (by decide))
                  clear z792 z793 z794
                  have q989 := J971.keep t790 (by decide) q799
                  have t990 := J971.up t800
                  have q991 := J971.keep t790 (by decide) q801
                  refine mv_goto (tgt := 165) d_TrustDeskModel_readClause_132 (by decide) ?_
                  refine mv_aload_n d_TrustDeskModel_readClause_165 rfl rfl ?_
                  refine mv_bipush (v := 59) d_TrustDeskModel_readClause_166 (by decide) ?_
                  obtain ⟨_, b998, -⟩ := I972.1 _ _ t978
                  have : (59 : Int32).toInt = 59 := by decide
                  refine mv_callV (kc' := 0) (ks' := 0) (As := [.int 59]) (st9 := [.int 59, .ref o0]) d_TrustDeskModel_readClause_168 lV_TrustDeskModel_291 b998 rfl (tc_TrustDeskModel_wantSign_x (d := (d + 23)) (x9 := x9) (o0 := o0) (x1 := 59) t978 R974 E985.1 (by have := R974.1 15 _ _ rfl; have := R974.1 16 _ _ rfl; have := R974.1 19 _ _ rfl; have := E985.f yS; omega) I972.start) rfl (Nat.le_of_ble_eq_true rfl) (Nat.le_of_ble_eq_true rfl) (Nat.le_of_ble_eq_true rfl) (hst := rfl) (fun b992r M993 n994 b992 => ?_)
                  obtain ⟨T995, J996, rfl, R999, f1000⟩ := b992
                  have I997 := I972.call J996 (tm_sub (by decide)) (Or.inl rfl)
                  have t1001 := J996.up t978
                  have z1002 := (rv_c I972 J996 (I972.up h_o0) (k := 22) rfl).trans z979
                  have z1003 := (rv_c I972 J996 (I972.up h_o0) (k := 24) rfl).trans z980
                  have z1004 := (ra_call I972 J996 (I972.up h_o0) (k := 5) rfl rfl rfl 44).trans z981
                  have z1005 := (ra_call I972 J996 (I972.up h_o0) (k := 6) rfl rfl rfl 44).trans z982
                  have z1006 := (ra_call I972 J996 (I972.up h_o0) (k := 7) rfl rfl rfl ((880 + ra M0 o0 6 44).toNat)).trans z983
                  have z1007 := (ra_call I972 J996 (I972.up h_o0) (k := 10) rfl rfl rfl ((880 + ra M0 o0 6 44).toNat)).trans z984
                  have z1008 := (ra_call I972 J996 (I972.up h_o0) (k := 8) rfl rfl rfl ((880 + ra M0 o0 6 44).toNat))
                  have E1009 : rE M0 M993 o0 0 2 := E985.trans f1000 (by decide) (yR.2 5 _ _ rfl 44).1 (by decide) (by decide)
                  have := f1000.w
                  have := f1000.w2
                  have K1010 : rK M0 M993 o0 ((880 + ra M0 o0 6 44).toNat) := K987.same (sA_c I972 J996 (I972.up h_o0) (by decide))
                  have K1011 : nN M993 o0 := K988.same (sA_c I972 J996 (I972.up h_o0) (by decide)) (sF_c I972 J996 (I972.up h_o0) (by decide))
                  clear z979 z980 z981 z982 z983 z984
                  have q1012 := J996.keep t978 (by decide) q989
                  have t1013 := J996.up t990
                  have q1014 := J996.keep t978 (by decide) q991
                  refine mv_aload_n d_TrustDeskModel_readClause_171 rfl rfl ?_
                  obtain ⟨a1016, q1015, t_a1016⟩ := tm_atR I997 t1001 (k := 12) rfl
                  refine tr_getK q1015 d_TrustDeskModel_readClause_172 f_TrustDeskModel_41_13 ?_
                  refine mv_iload_n d_TrustDeskModel_readClause_175 rfl rfl ?_
                  refine mv_aload_n d_TrustDeskModel_readClause_176 rfl rfl ?_
                  obtain ⟨a1018, q1017, t_a1018⟩ := tm_atR I997 t1001 (k := 5) rfl
                  refine tr_getK q1017 d_TrustDeskModel_readClause_177 f_TrustDeskModel_20_13 ?_
                  refine mv_bipush (v := 44) d_TrustDeskModel_readClause_180 (by decide) ?_
                  refine tr_ialdR (o := o0) (k := 5) I997 q1017 t_a1018 (by decide) d_TrustDeskModel_readClause_182 (by unfold vp_in; decide) (fun v1019 e1020 => ?_)
                  have := R999.a (k := 5) rfl (44 : Int32).toNatClampNeg
                  have : v1019.toInt = ra M993 o0 5 44 := e1020
                  have : v1019.toInt = _ := Eq.trans e1020 z1004
                  refine tr_iastR (k := 12) I997 R999 (I997.up h_o0) q1015 t_a1016 (by decide) (by decide) (fun lo hi h => by cases h; have := R999.1 15 _ _ rfl; have := R999.1 16 _ _ rfl; have := R999.1 19 _ _ rfl; have := E1009.f yS; exact ⟨by show (0 : Int) ≤ v1019.toInt; omega, by show v1019.toInt ≤ (400 : Int); omega⟩) (Or.inl (by decide)) d_TrustDeskModel_readClause_183 (vp_in_iff.mpr (by have := R999.1 15 _ _ rfl; have := R999.1 16 _ _ rfl; have := R999.1 19 _ _ rfl; have := E1009.f yS; omega)) (fun M1021 I1022 K1023 R1024 E1025 A1026 V1027 => ?_)
                  have z1028 := (V1027 15)
                  have z1029 := (V1027 16)
                  have z1030 := (V1027 17)
                  have z1031 := (V1027 19)
                  have z1032 := (V1027 22).trans z1002
                  have z1033 := (V1027 24).trans z1003
                  have z1034 := (A1026 5 (by decide) rfl 44).trans z1004
                  have z1035 := (A1026 6 (by decide) rfl 44).trans z1005
                  have z1036 := (A1026 7 (by decide) rfl ((880 + ra M0 o0 6 44).toNat)).trans z1006
                  have z1037 := (A1026 10 (by decide) rfl ((880 + ra M0 o0 6 44).toNat)).trans z1007
                  have z1038 := (A1026 8 (by decide) rfl ((880 + ra M0 o0 6 44).toNat)).trans z1008
                  have E1039 : rE M0 M1021 o0 0 2 := E1009.same (fun k _ _ => V1027 k) (fun k h1 h2 => A1026 k (by omega) (by rcases (show k = 4 ∨ k = 5 by omega) with rfl | rfl <;> rfl))
                  have h1040 : (880 + ra M0 o0 6 44).toNat = v782.toNatClampNeg := by have := mz_nat9 (i := v782) (by have := R999.1 15 _ _ rfl; have := R999.1 16 _ _ rfl; have := R999.1 19 _ _ rfl; have := E1009.f yS; omega); have := R999.1 15 _ _ rfl; have := R999.1 16 _ _ rfl; have := R999.1 19 _ _ rfl; have := E1009.f yS; omega
                  have z1041 : ra M1021 o0 12 ((880 + ra M0 o0 6 44).toNat) = v1019.toInt := (E1025 _).trans (if_pos h1040)
                  have K1042 : rK M0 M1021 o0 ((880 + ra M0 o0 6 44).toNat) := K1010.st A1026 E1025 (by have := mz_nat9 (i := v782) (by have := R999.1 15 _ _ rfl; have := R999.1 16 _ _ rfl; have := R999.1 19 _ _ rfl; have := E1009.f yS; omega); have := R999.1 15 _ _ rfl; have := R999.1 16 _ _ rfl; have := R999.1 19 _ _ rfl; have := E1009.f yS; omega)
                  have K1043 : nN M1021 o0 := K1011.same (sA_a A1026 (by decide)) (sF_a V1027)
                  clear z1002 z1003 z1004 z1005 z1006 z1007 z1008
                  exact mv_vret d_TrustDeskModel_readClause_184 rfl ⟨_, I1022, rfl, R1024, (rW.of E1039.1 (fun w9 => (by have := R1024.1 15 _ _ rfl; have := R1024.1 16 _ _ rfl; have := R1024.1 19 _ _ rfl; have := E1039.f yS; omega)) (fun w9 => rG.step yG yR E1039 w9 K1042 (by have := yR.2 6 _ _ rfl 44; omega) (by have := R1024.1 15 _ _ rfl; have := R1024.1 16 _ _ rfl; have := R1024.1 19 _ _ rfl; have := E1039.f yS; omega) (by have := R1024.1 15 _ _ rfl; have := R1024.1 16 _ _ rfl; have := R1024.1 19 _ _ rfl; have := E1039.f yS; omega) (fun h9 => by exfalso; have := R1024.1 15 _ _ rfl; have := R1024.1 16 _ _ rfl; have := R1024.1 19 _ _ rfl; have := E1039.f yS; omega) (fun h9 => (by have := R1024.1 15 _ _ rfl; have := R1024.1 16 _ _ rfl; have := R1024.1 19 _ _ rfl; have := E1039.f yS; omega)) (by have := R1024.1 15 _ _ rfl; have := R1024.1 16 _ _ rfl; have := R1024.1 19 _ _ rfl; have := E1039.f yS; omega) K1043)), (rO.of E1039 K1042 (by have := yR.2 6 _ _ rfl 44; omega)), (by have := R1024.1 15 _ _ rfl; have := R1024.1 16 _ _ rfl; have := R1024.1 19 _ _ rfl; have := E1039.f yS; omega), (by have := R1024.1 15 _ _ rfl; have := R1024.1 16 _ _ rfl; have := R1024.1 19 _ _ rfl; have := E1039.f yS; omega), (fun h9 _ => absurd h9 (f16 (by have := R1024.1 15 _ _ rfl; have := R1024.1 16 _ _ rfl; have := R1024.1 19 _ _ rfl; have := E1039.f yS; omega)))⟩
            · refine mv_bipush (v := 8) d_TrustDeskModel_readClause_91 (by decide) ?_
              refine mv_goto (tgt := 107) d_TrustDeskModel_readClause_93 (by decide) ?_
              obtain ⟨_, b1050, -⟩ := I558.1 _ _ t565
              have : (8 : Int32).toInt = 8 := by decide
              refine mv_callV (kc' := 0) (ks' := 0) (As := [.int 8]) (st9 := [.int 8, .ref o0]) d_TrustDeskModel_readClause_107 lV_TrustDeskModel_342 b1050 rfl (tc_TrustDeskModel_begin_x (d := (d + 23)) (x9 := x9) (o0 := o0) (x1 := 8) t565 R563 E574.1 (by have := R563.1 15 _ _ rfl; have := R563.1 16 _ _ rfl; have := R563.1 19 _ _ rfl; have := E574.f yS; omega) (by have := R563.1 15 _ _ rfl; have := R563.1 16 _ _ rfl; have := R563.1 19 _ _ rfl; have := E574.f yS; omega) (by have := R563.1 15 _ _ rfl; have := R563.1 16 _ _ rfl; have := R563.1 19 _ _ rfl; have := E574.f yS; omega) (by have := R563.1 15 _ _ rfl; have := R563.1 16 _ _ rfl; have := R563.1 19 _ _ rfl; have := E574.f yS; omega) I558.start) rfl (Nat.le_of_ble_eq_true rfl) (Nat.le_of_ble_eq_true rfl) (Nat.le_of_ble_eq_true rfl) (hst := rfl) (fun b1044r M1045 n1046 b1044 => ?_)
              obtain ⟨T1047, J1048, v1051, rfl, R1052, f1053, f1054, f1055, f1056, f1057, f1058⟩ := b1044
              have I1049 := I558.call J1048 (tm_sub (by decide)) (Or.inl rfl)
              have t1059 := J1048.up t565
              have z1060 := (rv_c I558 J1048 (I558.up h_o0) (k := 19) rfl).trans z569
              have z1061 := (rv_c I558 J1048 (I558.up h_o0) (k := 22) rfl).trans z570
              have z1062 := (rv_c I558 J1048 (I558.up h_o0) (k := 24) rfl).trans z571
              have z1063 := (ra_call I558 J1048 (I558.up h_o0) (k := 5) rfl rfl rfl 44).trans z572
              have E1064 : rE M0 M1045 o0 0 1 := E574.trans f1053 (by decide) (yR.2 5 _ _ rfl 44).1 (by decide) (by decide)
              have := f1053.w
              have := f1053.w2
              have h1065 : (880 + ra M554 o0 6 44).toNat = (880 + ra M0 o0 6 44).toNat := by omega
              rw [h1065] at f1056 f1057 f1058
              have K1066 : rK M0 M1045 o0 ((880 + ra M0 o0 6 44).toNat) := K575.trans f1058
              have K1067 : nN M1045 o0 := K576.same (sA_c I558 J1048 (I558.up h_o0) (by decide)) (sF_c I558 J1048 (I558.up h_o0) (by decide))
              clear z569 z570 z571
              have q1068 := J1048.keep t565 (by decide) q577
              have t1069 := J1048.up t578
              have q1070 := J1048.keep t565 (by decide) q579
              have q1071 := J1048.keep t565 (by decide) q580
              refine mv_istore_n (lv' := [(3, .int v1051), (2, .int v560), (1, .int v10), (0, .ref o0)]) d_TrustDeskModel_readClause_110 rfl (by decide) rfl ?_
              refine mv_iload_n d_TrustDeskModel_readClause_111 rfl rfl ?_
              have := mz_hi v10
              refine mv_if_eqZ (tgt := 123) (a := v10.toInt) d_TrustDeskModel_readClause_112 (by decide) rfl (fun b1072 => ?_) (fun b1072 => ?_)
              · refine mv_iload_n d_TrustDeskModel_readClause_123 rfl rfl ?_
                have := mz_hi v560
                refine mv_if_eqZ (tgt := 135) (a := v560.toInt) d_TrustDeskModel_readClause_124 (by decide) rfl (fun b1073 => ?_) (fun b1073 => ?_)
                · refine mv_aload_n d_TrustDeskModel_readClause_135 rfl rfl ?_
                  obtain ⟨a1075, q1074, t_a1075⟩ := tm_atR I1049 t1059 (k := 8) rfl
                  refine tr_getK q1074 d_TrustDeskModel_readClause_136 f_TrustDeskModel_29_13 ?_
                  refine mv_iload_n d_TrustDeskModel_readClause_139 rfl rfl ?_
                  refine mv_aload_n d_TrustDeskModel_readClause_140 rfl rfl ?_
                  refine mv_iconst (v := 1) d_TrustDeskModel_readClause_141 (by decide) ?_
                  refine mv_bipush (v := 7) d_TrustDeskModel_readClause_142 (by decide) ?_
                  obtain ⟨_, b1082, -⟩ := I1049.1 _ _ t1059
                  have : (1 : Int32).toInt = 1 := by decide
                  have : (7 : Int32).toInt = 7 := by decide
                  refine mv_callV (kc' := 0) (ks' := 0) (As := [.int 1, .int 7]) (st9 := [.int 7, .int 1, .ref o0, .int v1051, .ref a1075]) d_TrustDeskModel_readClause_144 lV_TrustDeskModel_317 b1082 rfl (tc_TrustDeskModel_number_x (d := (d + 23)) (x9 := x9) (o0 := o0) (x1 := 1) (x2 := 7) t1059 R1052 E1064.1 (by have := R1052.1 15 _ _ rfl; have := R1052.1 16 _ _ rfl; have := R1052.1 19 _ _ rfl; have := E1064.f yS; omega) I1049.start) rfl (Nat.le_of_ble_eq_true rfl) (Nat.le_of_ble_eq_true rfl) (Nat.le_of_ble_eq_true rfl) (hst := rfl) (fun b1076r M1077 n1078 b1076 => ?_)
                  obtain ⟨T1079, J1080, v1083, rfl, R1084, f1085, f1086⟩ := b1076
                  have I1081 := I1049.call J1080 (tm_sub (by decide)) (Or.inl rfl)
                  have t1087 := J1080.up t1059
                  have t1088 := J1080.up t_a1075
                  have z1089 := (rv_c I1049 J1080 (I1049.up h_o0) (k := 22) rfl).trans z1061
                  have z1090 := (rv_c I1049 J1080 (I1049.up h_o0) (k := 24) rfl).trans z1062
                  have z1091 := (ra_call I1049 J1080 (I1049.up h_o0) (k := 5) rfl rfl rfl 44).trans z1063
                  have z1092 := (ra_call I1049 J1080 (I1049.up h_o0) (k := 6) rfl rfl rfl 44)
                  have z1093 := (ra_call I1049 J1080 (I1049.up h_o0) (k := 7) rfl rfl rfl ((880 + ra M0 o0 6 44).toNat))
                  have z1094 := (ra_call I1049 J1080 (I1049.up h_o0) (k := 10) rfl rfl rfl ((880 + ra M0 o0 6 44).toNat))
                  have E1095 : rE M0 M1077 o0 0 2 := E1064.trans f1085 (by decide) (yR.2 5 _ _ rfl 44).1 (by decide) (by decide)
                  have := f1085.w
                  have := f1085.w2
                  have K1096 : rK M0 M1077 o0 ((880 + ra M0 o0 6 44).toNat) := K1066.same (sA_c I1049 J1080 (I1049.up h_o0) (by decide))
                  have K1097 : nN M1077 o0 := K1067.same (sA_c I1049 J1080 (I1049.up h_o0) (by decide)) (sF_c I1049 J1080 (I1049.up h_o0) (by decide))
                  clear z1061 z1062 z1063
                  have q1098 := J1080.keep t1059 (by decide) q1068
                  have t1099 := J1080.up t1069
                  have q1100 := J1080.keep t1059 (by decide) q1070
                  have q1101 := J1080.keep t1059 (by decide) q1074
                  refine tr_iastR (k := 8) I1081 R1084 (I1081.up h_o0) q1101 t1088 (by decide) (by decide) (fun lo hi h => by cases h; have := R1084.1 15 _ _ rfl; have := R1084.1 16 _ _ rfl; have := R1084.1 19 _ _ rfl; have := E1095.f yS; exact ⟨by show ((-1) : Int) ≤ v1083.toInt; omega, by show v1083.toInt ≤ (720 : Int); omega⟩) (Or.inl (by decide)) d_TrustDeskModel_readClause_147 (vp_in_iff.mpr (by have := R1084.1 15 _ _ rfl; have := R1084.1 16 _ _ rfl; have := R1084.1 19 _ _ rfl; have := E1095.f yS; omega)) (fun M1102 I1103 K1104 R1105 E1106 A1107 V1108 => ?_)
                  have z1109 := (V1108 15)
                  have z1110 := (V1108 16)
                  have z1111 := (V1108 17)
                  have z1112 := (V1108 19)
                  have z1113 := (V1108 22).trans z1089
                  have z1114 := (V1108 24).trans z1090
                  have z1115 := (A1107 5 (by decide) rfl 44).trans z1091
                  have z1116 := (A1107 6 (by decide) rfl 44).trans z1092
                  have z1117 := (A1107 7 (by decide) rfl ((880 + ra M0 o0 6 44).toNat)).trans z1093
                  have z1118 := (A1107 10 (by decide) rfl ((880 + ra M0 o0 6 44).toNat)).trans z1094
                  have E1119 : rE M0 M1102 o0 0 2 := E1095.same (fun k _ _ => V1108 k) (fun k h1 h2 => A1107 k (by omega) (by rcases (show k = 4 ∨ k = 5 by omega) with rfl | rfl <;> rfl))
                  have h1120 : (880 + ra M0 o0 6 44).toNat = v1051.toNatClampNeg := by have := mz_nat9 (i := v1051) (by have := R1084.1 15 _ _ rfl; have := R1084.1 16 _ _ rfl; have := R1084.1 19 _ _ rfl; have := E1095.f yS; omega); have := R1084.1 15 _ _ rfl; have := R1084.1 16 _ _ rfl; have := R1084.1 19 _ _ rfl; have := E1095.f yS; omega
                  have z1121 : ra M1102 o0 8 ((880 + ra M0 o0 6 44).toNat) = v1083.toInt := (E1106 _).trans (if_pos h1120)
                  have K1122 : rK M0 M1102 o0 ((880 + ra M0 o0 6 44).toNat) := K1096.st A1107 E1106 (by have := mz_nat9 (i := v1051) (by have := R1084.1 15 _ _ rfl; have := R1084.1 16 _ _ rfl; have := R1084.1 19 _ _ rfl; have := E1095.f yS; omega); have := R1084.1 15 _ _ rfl; have := R1084.1 16 _ _ rfl; have := R1084.1 19 _ _ rfl; have := E1095.f yS; omega)
                  have K1123 : nN M1102 o0 := K1097.same (sA_a A1107 (by decide)) (sF_a V1108)
                  clear z1089 z1090 z1091 z1092 z1093 z1094
                  refine mv_aload_n d_TrustDeskModel_readClause_148 rfl rfl ?_
                  obtain ⟨a1125, q1124, t_a1125⟩ := tm_atR I1103 t1087 (k := 9) rfl
                  refine tr_getK q1124 d_TrustDeskModel_readClause_149 f_TrustDeskModel_32_13 ?_
                  refine mv_iload_n d_TrustDeskModel_readClause_152 rfl rfl ?_
                  refine mv_aload_n d_TrustDeskModel_readClause_153 rfl rfl ?_
                  refine mv_iconst (v := 1) d_TrustDeskModel_readClause_154 (by decide) ?_
                  refine mv_aload_n d_TrustDeskModel_readClause_155 rfl rfl ?_
                  refine tr_getK (k := 8) (K1104 _ 13 8 _ q1101) d_TrustDeskModel_readClause_156 f_TrustDeskModel_29_13 ?_
                  refine mv_iload_n d_TrustDeskModel_readClause_159 rfl rfl ?_
                  refine tr_ialdR (o := o0) (k := 8) I1103 (K1104 _ 13 8 _ q1101) t1088 (by decide) d_TrustDeskModel_readClause_160 (vp_in_iff.mpr (by have := R1105.1 15 _ _ rfl; have := R1105.1 16 _ _ rfl; have := R1105.1 19 _ _ rfl; have := E1119.f yS; omega)) (fun v1126 e1127 => ?_)
                  have := R1105.a (k := 8) rfl (v1051 : Int32).toNatClampNeg
                  have h1128 : (880 + ra M0 o0 6 44).toNat = v1051.toNatClampNeg := by have := mz_nat9 (i := v1051) (by have := R1105.1 15 _ _ rfl; have := R1105.1 16 _ _ rfl; have := R1105.1 19 _ _ rfl; have := E1119.f yS; omega); have := R1105.1 15 _ _ rfl; have := R1105.1 16 _ _ rfl; have := R1105.1 19 _ _ rfl; have := E1119.f yS; omega
                  have z1129 : v1126.toInt = ra M1102 o0 8 ((880 + ra M0 o0 6 44).toNat) := by rw [e1127, h1128]
                  have : v1126.toInt = _ := Eq.trans z1129 z1121
                  obtain ⟨_, b1136, -⟩ := I1103.1 _ _ t1087
                  have : (1 : Int32).toInt = 1 := by decide
                  refine mv_callV (kc' := 0) (ks' := 0) (As := [.int 1, .int v1126]) (st9 := [.int v1126, .int 1, .ref o0, .int v1051, .ref a1125]) d_TrustDeskModel_readClause_161 lV_TrustDeskModel_317 b1136 rfl (tc_TrustDeskModel_number_x (d := (d + 23)) (x9 := x9) (o0 := o0) (x1 := 1) (x2 := v1126) t1087 R1105 E1119.1 (by have := R1105.1 15 _ _ rfl; have := R1105.1 16 _ _ rfl; have := R1105.1 19 _ _ rfl; have := E1119.f yS; omega) I1103.start) rfl (Nat.le_of_ble_eq_true rfl) (Nat.le_of_ble_eq_true rfl) (Nat.le_of_ble_eq_true rfl) (hst := rfl) (fun b1130r M1131 n1132 b1130 => ?_)
                  obtain ⟨T1133, J1134, v1137, rfl, R1138, f1139, f1140⟩ := b1130
                  have I1135 := I1103.call J1134 (tm_sub (by decide)) (Or.inl rfl)
                  have t1141 := J1134.up t1087
                  have t1142 := J1134.up t_a1125
                  have z1143 := (rv_c I1103 J1134 (I1103.up h_o0) (k := 22) rfl).trans z1113
                  have z1144 := (rv_c I1103 J1134 (I1103.up h_o0) (k := 24) rfl).trans z1114
                  have z1145 := (ra_call I1103 J1134 (I1103.up h_o0) (k := 5) rfl rfl rfl 44).trans z1115
                  have z1146 := (ra_call I1103 J1134 (I1103.up h_o0) (k := 6) rfl rfl rfl 44).trans z1116
                  have z1147 := (ra_call I1103 J1134 (I1103.up h_o0) (k := 7) rfl rfl rfl ((880 + ra M0 o0 6 44).toNat)).trans z1117
                  have z1148 := (ra_call I1103 J1134 (I1103.up h_o0) (k := 10) rfl rfl rfl ((880 + ra M0 o0 6 44).toNat)).trans z1118
                  have z1149 := (ra_call I1103 J1134 (I1103.up h_o0) (k := 8) rfl rfl rfl ((880 + ra M0 o0 6 44).toNat)).trans z1121
                  have E1150 : rE M0 M1131 o0 0 3 := E1119.trans f1139 (by decide) (yR.2 5 _ _ rfl 44).1 (by decide) (by decide)
                  have := f1139.w
                  have := f1139.w2
                  have K1151 : rK M0 M1131 o0 ((880 + ra M0 o0 6 44).toNat) := K1122.same (sA_c I1103 J1134 (I1103.up h_o0) (by decide))
                  have K1152 : nN M1131 o0 := K1123.same (sA_c I1103 J1134 (I1103.up h_o0) (by decide)) (sF_c I1103 J1134 (I1103.up h_o0) (by decide))
                  clear z1113 z1114 z1115 z1116 z1117 z1118 z1121
                  have q1153 := J1134.keep t1087 (by decide) (K1104 _ 13 6 _ q1098)
                  have t1154 := J1134.up t1099
                  have q1155 := J1134.keep t1087 (by decide) (K1104 _ 13 24 _ q1100)
                  have q1156 := J1134.keep t1087 (by decide) (K1104 _ 13 8 _ q1101)
                  have t1157 := J1134.up t1088
                  have q1158 := J1134.keep t1087 (by decide) q1124
                  refine tr_iastR (k := 9) I1135 R1138 (I1135.up h_o0) q1158 t1142 (by decide) (by decide) (fun lo hi h => by cases h) (Or.inl (by decide)) d_TrustDeskModel_readClause_164 (vp_in_iff.mpr (by have := R1138.1 15 _ _ rfl; have := R1138.1 16 _ _ rfl; have := R1138.1 19 _ _ rfl; have := E1150.f yS; omega)) (fun M1159 I1160 K1161 R1162 E1163 A1164 V1165 => ?_)
                  have z1166 := (V1165 15)
                  have z1167 := (V1165 16)
                  have z1168 := (V1165 17)
                  have z1169 := (V1165 19)
                  have z1170 := (V1165 22).trans z1143
                  have z1171 := (V1165 24).trans z1144
                  have z1172 := (A1164 5 (by decide) rfl 44).trans z1145
                  have z1173 := (A1164 6 (by decide) rfl 44).trans z1146
                  have z1174 := (A1164 7 (by decide) rfl ((880 + ra M0 o0 6 44).toNat)).trans z1147
                  have z1175 := (A1164 10 (by decide) rfl ((880 + ra M0 o0 6 44).toNat)).trans z1148
                  have z1176 := (A1164 8 (by decide) rfl ((880 + ra M0 o0 6 44).toNat)).trans z1149
                  have E1177 : rE M0 M1159 o0 0 3 := E1150.same (fun k _ _ => V1165 k) (fun k h1 h2 => A1164 k (by omega) (by rcases (show k = 4 ∨ k = 5 by omega) with rfl | rfl <;> rfl))
                  have K1178 : rK M0 M1159 o0 ((880 + ra M0 o0 6 44).toNat) := K1151.same (sA_a A1164 (by decide))
                  have K1179 : nN M1159 o0 := K1152.same (sA_a A1164 (by decide)) (sF_a V1165)
                  clear z1143 z1144 z1145 z1146 z1147 z1148 z1149
                  refine mv_aload_n d_TrustDeskModel_readClause_165 rfl rfl ?_
                  refine mv_bipush (v := 59) d_TrustDeskModel_readClause_166 (by decide) ?_
                  obtain ⟨_, b1186, -⟩ := I1160.1 _ _ t1141
                  have : (59 : Int32).toInt = 59 := by decide
                  refine mv_callV (kc' := 0) (ks' := 0) (As := [.int 59]) (st9 := [.int 59, .ref o0]) d_TrustDeskModel_readClause_168 lV_TrustDeskModel_291 b1186 rfl (tc_TrustDeskModel_wantSign_x (d := (d + 23)) (x9 := x9) (o0 := o0) (x1 := 59) t1141 R1162 E1177.1 (by have := R1162.1 15 _ _ rfl; have := R1162.1 16 _ _ rfl; have := R1162.1 19 _ _ rfl; have := E1177.f yS; omega) I1160.start) rfl (Nat.le_of_ble_eq_true rfl) (Nat.le_of_ble_eq_true rfl) (Nat.le_of_ble_eq_true rfl) (hst := rfl) (fun b1180r M1181 n1182 b1180 => ?_)
                  obtain ⟨T1183, J1184, rfl, R1187, f1188⟩ := b1180
                  have I1185 := I1160.call J1184 (tm_sub (by decide)) (Or.inl rfl)
                  have t1189 := J1184.up t1141
                  have z1190 := (rv_c I1160 J1184 (I1160.up h_o0) (k := 22) rfl).trans z1170
                  have z1191 := (rv_c I1160 J1184 (I1160.up h_o0) (k := 24) rfl).trans z1171
                  have z1192 := (ra_call I1160 J1184 (I1160.up h_o0) (k := 5) rfl rfl rfl 44).trans z1172
                  have z1193 := (ra_call I1160 J1184 (I1160.up h_o0) (k := 6) rfl rfl rfl 44).trans z1173
                  have z1194 := (ra_call I1160 J1184 (I1160.up h_o0) (k := 7) rfl rfl rfl ((880 + ra M0 o0 6 44).toNat)).trans z1174
                  have z1195 := (ra_call I1160 J1184 (I1160.up h_o0) (k := 10) rfl rfl rfl ((880 + ra M0 o0 6 44).toNat)).trans z1175
                  have z1196 := (ra_call I1160 J1184 (I1160.up h_o0) (k := 8) rfl rfl rfl ((880 + ra M0 o0 6 44).toNat)).trans z1176
                  have E1197 : rE M0 M1181 o0 0 4 := E1177.trans f1188 (by decide) (yR.2 5 _ _ rfl 44).1 (by decide) (by decide)
                  have := f1188.w
                  have := f1188.w2
                  have K1198 : rK M0 M1181 o0 ((880 + ra M0 o0 6 44).toNat) := K1178.same (sA_c I1160 J1184 (I1160.up h_o0) (by decide))
                  have K1199 : nN M1181 o0 := K1179.same (sA_c I1160 J1184 (I1160.up h_o0) (by decide)) (sF_c I1160 J1184 (I1160.up h_o0) (by decide))
                  clear z1170 z1171 z1172 z1173 z1174 z1175 z1176
                  have q1200 := J1184.keep t1141 (by decide) (K1161 _ 13 6 _ q1153)
                  have t1201 := J1184.up t1154
                  have q1202 := J1184.keep t1141 (by decide) (K1161 _ 13 24 _ q1155)
                  have q1203 := J1184.keep t1141 (by decide) (K1161 _ 13 8 _ q1156)
                  have t1204 := J1184.up t1157
                  have q1205 := J1184.keep t1141 (by decide) (K1161 _ 13 9 _ q1158)
                  have t1206 := J1184.up t1142
                  refine mv_aload_n d_TrustDeskModel_readClause_171 rfl rfl ?_
                  obtain ⟨a1208, q1207, t_a1208⟩ := tm_atR I1185 t1189 (k := 12) rfl
                  refine tr_getK q1207 d_TrustDeskModel_readClause_172 f_TrustDeskModel_41_13 ?_
                  refine mv_iload_n d_TrustDeskModel_readClause_175 rfl rfl ?_
                  refine mv_aload_n d_TrustDeskModel_readClause_176 rfl rfl ?_
                  obtain ⟨a1210, q1209, t_a1210⟩ := tm_atR I1185 t1189 (k := 5) rfl
                  refine tr_getK q1209 d_TrustDeskModel_readClause_177 f_TrustDeskModel_20_13 ?_
                  refine mv_bipush (v := 44) d_TrustDeskModel_readClause_180 (by decide) ?_
                  refine tr_ialdR (o := o0) (k := 5) I1185 q1209 t_a1210 (by decide) d_TrustDeskModel_readClause_182 (by unfold vp_in; decide) (fun v1211 e1212 => ?_)
                  have := R1187.a (k := 5) rfl (44 : Int32).toNatClampNeg
                  have : v1211.toInt = ra M1181 o0 5 44 := e1212
                  have : v1211.toInt = _ := Eq.trans e1212 z1192
                  refine tr_iastR (k := 12) I1185 R1187 (I1185.up h_o0) q1207 t_a1208 (by decide) (by decide) (fun lo hi h => by cases h; have := R1187.1 15 _ _ rfl; have := R1187.1 16 _ _ rfl; have := R1187.1 19 _ _ rfl; have := E1197.f yS; exact ⟨by show (0 : Int) ≤ v1211.toInt; omega, by show v1211.toInt ≤ (400 : Int); omega⟩) (Or.inl (by decide)) d_TrustDeskModel_readClause_183 (vp_in_iff.mpr (by have := R1187.1 15 _ _ rfl; have := R1187.1 16 _ _ rfl; have := R1187.1 19 _ _ rfl; have := E1197.f yS; omega)) (fun M1213 I1214 K1215 R1216 E1217 A1218 V1219 => ?_)
                  have z1220 := (V1219 15)
                  have z1221 := (V1219 16)
                  have z1222 := (V1219 17)
                  have z1223 := (V1219 19)
                  have z1224 := (V1219 22).trans z1190
                  have z1225 := (V1219 24).trans z1191
                  have z1226 := (A1218 5 (by decide) rfl 44).trans z1192
                  have z1227 := (A1218 6 (by decide) rfl 44).trans z1193
                  have z1228 := (A1218 7 (by decide) rfl ((880 + ra M0 o0 6 44).toNat)).trans z1194
                  have z1229 := (A1218 10 (by decide) rfl ((880 + ra M0 o0 6 44).toNat)).trans z1195
                  have z1230 := (A1218 8 (by decide) rfl ((880 + ra M0 o0 6 44).toNat)).trans z1196
                  have E1231 : rE M0 M1213 o0 0 4 := E1197.same (fun k _ _ => V1219 k) (fun k h1 h2 => A1218 k (by omega) (by rcases (show k = 4 ∨ k = 5 by omega) with rfl | rfl <;> rfl))
                  have h1232 : (880 + ra M0 o0 6 44).toNat = v1051.toNatClampNeg := by have := mz_nat9 (i := v1051) (by have := R1187.1 15 _ _ rfl; have := R1187.1 16 _ _ rfl; have := R1187.1 19 _ _ rfl; have := E1197.f yS; omega); have := R1187.1 15 _ _ rfl; have := R1187.1 16 _ _ rfl; have := R1187.1 19 _ _ rfl; have := E1197.f yS; omega
                  have z1233 : ra M1213 o0 12 ((880 + ra M0 o0 6 44).toNat) = v1211.toInt := (E1217 _).trans (if_pos h1232)
                  have K1234 : rK M0 M1213 o0 ((880 + ra M0 o0 6 44).toNat) := K1198.st A1218 E1217 (by have := mz_nat9 (i := v1051) (by have := R1187.1 15 _ _ rfl; have := R1187.1 16 _ _ rfl; have := R1187.1 19 _ _ rfl; have := E1197.f yS; omega); have := R1187.1 15 _ _ rfl; have := R1187.1 16 _ _ rfl; have := R1187.1 19 _ _ rfl; have := E1197.f yS; omega)
                  have K1235 : nN M1213 o0 := K1199.same (sA_a A1218 (by decide)) (sF_a V1219)
                  clear z1190 z1191 z1192 z1193 z1194 z1195 z1196
                  exact mv_vret d_TrustDeskModel_readClause_184 rfl ⟨_, I1214, rfl, R1216, (rW.of E1231.1 (fun w9 => (by have := R1216.1 15 _ _ rfl; have := R1216.1 16 _ _ rfl; have := R1216.1 19 _ _ rfl; have := E1231.f yS; omega)) (fun w9 => rG.step yG yR E1231 w9 K1234 (by have := yR.2 6 _ _ rfl 44; omega) (by have := R1216.1 15 _ _ rfl; have := R1216.1 16 _ _ rfl; have := R1216.1 19 _ _ rfl; have := E1231.f yS; omega) (by have := R1216.1 15 _ _ rfl; have := R1216.1 16 _ _ rfl; have := R1216.1 19 _ _ rfl; have := E1231.f yS; omega) (fun h9 => by exfalso; have := R1216.1 15 _ _ rfl; have := R1216.1 16 _ _ rfl; have := R1216.1 19 _ _ rfl; have := E1231.f yS; omega) (fun h9 => (by have := R1216.1 15 _ _ rfl; have := R1216.1 16 _ _ rfl; have := R1216.1 19 _ _ rfl; have := E1231.f yS; omega)) (by have := R1216.1 15 _ _ rfl; have := R1216.1 16 _ _ rfl; have := R1216.1 19 _ _ rfl; have := E1231.f yS; omega) K1235)), (rO.of E1231 K1234 (by have := yR.2 6 _ _ rfl 44; omega)), (by have := R1216.1 15 _ _ rfl; have := R1216.1 16 _ _ rfl; have := R1216.1 19 _ _ rfl; have := E1231.f yS; omega), (by have := R1216.1 15 _ _ rfl; have := R1216.1 16 _ _ rfl; have := R1216.1 19 _ _ rfl; have := E1231.f yS; omega), (fun h9 _ => absurd h9 (f16 (by have := R1216.1 15 _ _ rfl; have := R1216.1 16 _ _ rfl; have := R1216.1 19 _ _ rfl; have := E1231.f yS; omega)))⟩
                · refine mv_aload_n d_TrustDeskModel_readClause_127 rfl rfl ?_
                  refine mv_iload_n d_TrustDeskModel_readClause_128 rfl rfl ?_
                  obtain ⟨_, b1242, -⟩ := I1049.1 _ _ t1059
                  refine mv_callV (kc' := 0) (ks' := 0) (As := [.int v1051]) (st9 := [.int v1051, .ref o0]) d_TrustDeskModel_readClause_129 lV_TrustDeskModel_348 b1242 rfl (tc_TrustDeskModel_readMarks_x (d := (d + 22)) (x9 := x9) (o0 := o0) (x1 := v1051) t1059 R1052 E1064.1 (by have := R1052.1 15 _ _ rfl; have := R1052.1 16 _ _ rfl; have := R1052.1 19 _ _ rfl; have := E1064.f yS; omega) (by have := R1052.1 15 _ _ rfl; have := R1052.1 16 _ _ rfl; have := R1052.1 19 _ _ rfl; have := E1064.f yS; omega) I1049.start) rfl (Nat.le_of_ble_eq_true rfl) (Nat.le_of_ble_eq_true rfl) (Nat.le_of_ble_eq_true rfl) (hst := rfl) (fun b1236r M1237 n1238 b1236 => ?_)
                  obtain ⟨T1239, J1240, rfl, R1243, f1244, f1245, f1246⟩ := b1236
                  have I1241 := I1049.call J1240 (tm_sub (by decide)) (Or.inl rfl)
                  have t1247 := J1240.up t1059
                  have z1248 := (rv_c I1049 J1240 (I1049.up h_o0) (k := 22) rfl).trans z1061
                  have z1249 := (rv_c I1049 J1240 (I1049.up h_o0) (k := 24) rfl).trans z1062
                  have z1250 := (ra_call I1049 J1240 (I1049.up h_o0) (k := 5) rfl rfl rfl 44).trans z1063
                  have z1251 := (ra_call I1049 J1240 (I1049.up h_o0) (k := 6) rfl rfl rfl 44)
                  have z1252 := (ra_call I1049 J1240 (I1049.up h_o0) (k := 7) rfl rfl rfl ((880 + ra M0 o0 6 44).toNat))
                  have z1253 := (ra_call I1049 J1240 (I1049.up h_o0) (k := 10) rfl rfl rfl ((880 + ra M0 o0 6 44).toNat))
                  have E1254 : rE M0 M1237 o0 0 1 := E1064.trans f1244 (by decide) (yR.2 5 _ _ rfl 44).1 (by decide) (by decide)
                  have := f1244.w
                  have := f1244.w2
                  have h1255 : v1051.toNatClampNeg = (880 + ra M0 o0 6 44).toNat := by have := mz_nat9 (i := v1051) (by have := R1052.1 15 _ _ rfl; have := R1052.1 16 _ _ rfl; have := R1052.1 19 _ _ rfl; have := E1064.f yS; omega); have := R1052.1 15 _ _ rfl; have := R1052.1 16 _ _ rfl; have := R1052.1 19 _ _ rfl; have := E1064.f yS; omega
                  rw [h1255] at f1245 f1246
                  have K1256 : rK M0 M1237 o0 ((880 + ra M0 o0 6 44).toNat) := K1066.one8 (sA_c I1049 J1240 (I1049.up h_o0) (by decide)) f1245
                  have K1257 : nN M1237 o0 := K1067.same (sA_c I1049 J1240 (I1049.up h_o0) (by decide)) (sF_c I1049 J1240 (I1049.up h_o0) (by decide))
                  clear z1061 z1062 z1063
                  have q1258 := J1240.keep t1059 (by decide) q1068
                  have t1259 := J1240.up t1069
                  have q1260 := J1240.keep t1059 (by decide) q1070
                  refine mv_goto (tgt := 165) d_TrustDeskModel_readClause_132 (by decide) ?_
                  refine mv_aload_n d_TrustDeskModel_readClause_165 rfl rfl ?_
                  refine mv_bipush (v := 59) d_TrustDeskModel_readClause_166 (by decide) ?_
                  obtain ⟨_, b1267, -⟩ := I1241.1 _ _ t1247
                  have : (59 : Int32).toInt = 59 := by decide
                  refine mv_callV (kc' := 0) (ks' := 0) (As := [.int 59]) (st9 := [.int 59, .ref o0]) d_TrustDeskModel_readClause_168 lV_TrustDeskModel_291 b1267 rfl (tc_TrustDeskModel_wantSign_x (d := (d + 23)) (x9 := x9) (o0 := o0) (x1 := 59) t1247 R1243 E1254.1 (by have := R1243.1 15 _ _ rfl; have := R1243.1 16 _ _ rfl; have := R1243.1 19 _ _ rfl; have := E1254.f yS; omega) I1241.start) rfl (Nat.le_of_ble_eq_true rfl) (Nat.le_of_ble_eq_true rfl) (Nat.le_of_ble_eq_true rfl) (hst := rfl) (fun b1261r M1262 n1263 b1261 => ?_)
                  obtain ⟨T1264, J1265, rfl, R1268, f1269⟩ := b1261
                  have I1266 := I1241.call J1265 (tm_sub (by decide)) (Or.inl rfl)
                  have t1270 := J1265.up t1247
                  have z1271 := (rv_c I1241 J1265 (I1241.up h_o0) (k := 22) rfl).trans z1248
                  have z1272 := (rv_c I1241 J1265 (I1241.up h_o0) (k := 24) rfl).trans z1249
                  have z1273 := (ra_call I1241 J1265 (I1241.up h_o0) (k := 5) rfl rfl rfl 44).trans z1250
                  have z1274 := (ra_call I1241 J1265 (I1241.up h_o0) (k := 6) rfl rfl rfl 44).trans z1251
                  have z1275 := (ra_call I1241 J1265 (I1241.up h_o0) (k := 7) rfl rfl rfl ((880 + ra M0 o0 6 44).toNat)).trans z1252
                  have z1276 := (ra_call I1241 J1265 (I1241.up h_o0) (k := 10) rfl rfl rfl ((880 + ra M0 o0 6 44).toNat)).trans z1253
                  have z1277 := (ra_call I1241 J1265 (I1241.up h_o0) (k := 8) rfl rfl rfl ((880 + ra M0 o0 6 44).toNat))
                  have E1278 : rE M0 M1262 o0 0 2 := E1254.trans f1269 (by decide) (yR.2 5 _ _ rfl 44).1 (by decide) (by decide)
                  have := f1269.w
                  have := f1269.w2
                  have K1279 : rK M0 M1262 o0 ((880 + ra M0 o0 6 44).toNat) := K1256.same (sA_c I1241 J1265 (I1241.up h_o0) (by decide))
                  have K1280 : nN M1262 o0 := K1257.same (sA_c I1241 J1265 (I1241.up h_o0) (by decide)) (sF_c I1241 J1265 (I1241.up h_o0) (by decide))
                  clear z1248 z1249 z1250 z1251 z1252 z1253
                  have q1281 := J1265.keep t1247 (by decide) q1258
                  have t1282 := J1265.up t1259
                  have q1283 := J1265.keep t1247 (by decide) q1260
                  refine mv_aload_n d_TrustDeskModel_readClause_171 rfl rfl ?_
                  obtain ⟨a1285, q1284, t_a1285⟩ := tm_atR I1266 t1270 (k := 12) rfl
                  refine tr_getK q1284 d_TrustDeskModel_readClause_172 f_TrustDeskModel_41_13 ?_
                  refine mv_iload_n d_TrustDeskModel_readClause_175 rfl rfl ?_
                  refine mv_aload_n d_TrustDeskModel_readClause_176 rfl rfl ?_
                  obtain ⟨a1287, q1286, t_a1287⟩ := tm_atR I1266 t1270 (k := 5) rfl
                  refine tr_getK q1286 d_TrustDeskModel_readClause_177 f_TrustDeskModel_20_13 ?_
                  refine mv_bipush (v := 44) d_TrustDeskModel_readClause_180 (by decide) ?_
                  refine tr_ialdR (o := o0) (k := 5) I1266 q1286 t_a1287 (by decide) d_TrustDeskModel_readClause_182 (by unfold vp_in; decide) (fun v1288 e1289 => ?_)
                  have := R1268.a (k := 5) rfl (44 : Int32).toNatClampNeg
                  have : v1288.toInt = ra M1262 o0 5 44 := e1289
                  have : v1288.toInt = _ := Eq.trans e1289 z1273
                  refine tr_iastR (k := 12) I1266 R1268 (I1266.up h_o0) q1284 t_a1285 (by decide) (by decide) (fun lo hi h => by cases h; have := R1268.1 15 _ _ rfl; have := R1268.1 16 _ _ rfl; have := R1268.1 19 _ _ rfl; have := E1278.f yS; exact ⟨by show (0 : Int) ≤ v1288.toInt; omega, by show v1288.toInt ≤ (400 : Int); omega⟩) (Or.inl (by decide)) d_TrustDeskModel_readClause_183 (vp_in_iff.mpr (by have := R1268.1 15 _ _ rfl; have := R1268.1 16 _ _ rfl; have := R1268.1 19 _ _ rfl; have := E1278.f yS; omega)) (fun M1290 I1291 K1292 R1293 E1294 A1295 V1296 => ?_)
                  have z1297 := (V1296 15)
                  have z1298 := (V1296 16)
                  have z1299 := (V1296 17)
                  have z1300 := (V1296 19)
                  have z1301 := (V1296 22).trans z1271
                  have z1302 := (V1296 24).trans z1272
                  have z1303 := (A1295 5 (by decide) rfl 44).trans z1273
                  have z1304 := (A1295 6 (by decide) rfl 44).trans z1274
                  have z1305 := (A1295 7 (by decide) rfl ((880 + ra M0 o0 6 44).toNat)).trans z1275
                  have z1306 := (A1295 10 (by decide) rfl ((880 + ra M0 o0 6 44).toNat)).trans z1276
                  have z1307 := (A1295 8 (by decide) rfl ((880 + ra M0 o0 6 44).toNat)).trans z1277
                  have E1308 : rE M0 M1290 o0 0 2 := E1278.same (fun k _ _ => V1296 k) (fun k h1 h2 => A1295 k (by omega) (by rcases (show k = 4 ∨ k = 5 by omega) with rfl | rfl <;> rfl))
                  have h1309 : (880 + ra M0 o0 6 44).toNat = v1051.toNatClampNeg := by have := mz_nat9 (i := v1051) (by have := R1268.1 15 _ _ rfl; have := R1268.1 16 _ _ rfl; have := R1268.1 19 _ _ rfl; have := E1278.f yS; omega); have := R1268.1 15 _ _ rfl; have := R1268.1 16 _ _ rfl; have := R1268.1 19 _ _ rfl; have := E1278.f yS; omega
                  have z1310 : ra M1290 o0 12 ((880 + ra M0 o0 6 44).toNat) = v1288.toInt := (E1294 _).trans (if_pos h1309)
                  have K1311 : rK M0 M1290 o0 ((880 + ra M0 o0 6 44).toNat) := K1279.st A1295 E1294 (by have := mz_nat9 (i := v1051) (by have := R1268.1 15 _ _ rfl; have := R1268.1 16 _ _ rfl; have := R1268.1 19 _ _ rfl; have := E1278.f yS; omega); have := R1268.1 15 _ _ rfl; have := R1268.1 16 _ _ rfl; have := R1268.1 19 _ _ rfl; have := E1278.f yS; omega)
                  have K1312 : nN M1290 o0 := K1280.same (sA_a A1295 (by decide)) (sF_a V1296)
                  clear z1271 z1272 z1273 z1274 z1275 z1276 z1277
                  exact mv_vret d_TrustDeskModel_readClause_184 rfl ⟨_, I1291, rfl, R1293, (rW.of E1308.1 (fun w9 => (by have := R1293.1 15 _ _ rfl; have := R1293.1 16 _ _ rfl; have := R1293.1 19 _ _ rfl; have := E1308.f yS; omega)) (fun w9 => rG.step yG yR E1308 w9 K1311 (by have := yR.2 6 _ _ rfl 44; omega) (by have := R1293.1 15 _ _ rfl; have := R1293.1 16 _ _ rfl; have := R1293.1 19 _ _ rfl; have := E1308.f yS; omega) (by have := R1293.1 15 _ _ rfl; have := R1293.1 16 _ _ rfl; have := R1293.1 19 _ _ rfl; have := E1308.f yS; omega) (fun h9 => by exfalso; have := R1293.1 15 _ _ rfl; have := R1293.1 16 _ _ rfl; have := R1293.1 19 _ _ rfl; have := E1308.f yS; omega) (fun h9 => (by have := R1293.1 15 _ _ rfl; have := R1293.1 16 _ _ rfl; have := R1293.1 19 _ _ rfl; have := E1308.f yS; omega)) (by have := R1293.1 15 _ _ rfl; have := R1293.1 16 _ _ rfl; have := R1293.1 19 _ _ rfl; have := E1308.f yS; omega) K1312)), (rO.of E1308 K1311 (by have := yR.2 6 _ _ rfl 44; omega)), (by have := R1293.1 15 _ _ rfl; have := R1293.1 16 _ _ rfl; have := R1293.1 19 _ _ rfl; have := E1308.f yS; omega), (by have := R1293.1 15 _ _ rfl; have := R1293.1 16 _ _ rfl; have := R1293.1 19 _ _ rfl; have := E1308.f yS; omega), (fun h9 _ => absurd h9 (f16 (by have := R1293.1 15 _ _ rfl; have := R1293.1 16 _ _ rfl; have := R1293.1 19 _ _ rfl; have := E1308.f yS; omega)))⟩
              · refine mv_aload_n d_TrustDeskModel_readClause_115 rfl rfl ?_
                refine mv_iload_n d_TrustDeskModel_readClause_116 rfl rfl ?_
                obtain ⟨_, b1319, -⟩ := I1049.1 _ _ t1059
                refine mv_callV (kc' := 0) (ks' := 0) (As := [.int v1051]) (st9 := [.int v1051, .ref o0]) d_TrustDeskModel_readClause_117 lV_TrustDeskModel_345 b1319 rfl (tc_TrustDeskModel_readEnd_x (d := d) (x9 := x9) (o0 := o0) (x1 := v1051) t1059 R1052 E1064.1 (by have := R1052.1 15 _ _ rfl; have := R1052.1 16 _ _ rfl; have := R1052.1 19 _ _ rfl; have := E1064.f yS; omega) (by have := R1052.1 15 _ _ rfl; have := R1052.1 16 _ _ rfl; have := R1052.1 19 _ _ rfl; have := E1064.f yS; omega) (by have := R1052.1 15 _ _ rfl; have := R1052.1 16 _ _ rfl; have := R1052.1 19 _ _ rfl; have := E1064.f yS; omega) (by have := R1052.1 15 _ _ rfl; have := R1052.1 16 _ _ rfl; have := R1052.1 19 _ _ rfl; have := E1064.f yS; omega) K1067 (by have := R1052.1 15 _ _ rfl; have := R1052.1 16 _ _ rfl; have := R1052.1 19 _ _ rfl; have := E1064.f yS; omega) I1049.start) rfl (Nat.le_of_ble_eq_true rfl) (Nat.le_of_ble_eq_true rfl) (Nat.le_of_ble_eq_true rfl) (hst := rfl) (fun b1313r M1314 n1315 b1313 => ?_)
                obtain ⟨T1316, J1317, rfl, R1320, f1321, f1322, f1323, f1324, f1325, f1326⟩ := b1313
                have I1318 := I1049.call J1317 (tm_sub (by decide)) (Or.inl rfl)
                have t1327 := J1317.up t1059
                have z1328 := (ra_call I1049 J1317 (I1049.up h_o0) (k := 6) rfl rfl rfl 44)
                have z1329 := (ra_call I1049 J1317 (I1049.up h_o0) (k := 7) rfl rfl rfl ((880 + ra M0 o0 6 44).toNat))
                have z1330 := (ra_call I1049 J1317 (I1049.up h_o0) (k := 10) rfl rfl rfl ((880 + ra M0 o0 6 44).toNat))
                have E1331 : rE M0 M1314 o0 2 1 := E1064.trans f1321 (by decide) (yR.2 5 _ _ rfl 44).1 (by decide) (by decide)
                have := f1321.w
                have := f1321.w2
                have h1332 : v1051.toNatClampNeg = (880 + ra M0 o0 6 44).toNat := by have := mz_nat9 (i := v1051) (by have := R1052.1 15 _ _ rfl; have := R1052.1 16 _ _ rfl; have := R1052.1 19 _ _ rfl; have := E1064.f yS; omega); have := R1052.1 15 _ _ rfl; have := R1052.1 16 _ _ rfl; have := R1052.1 19 _ _ rfl; have := E1064.f yS; omega
                rw [h1332] at f1322 f1324 f1326
                have K1333 : rK M0 M1314 o0 ((880 + ra M0 o0 6 44).toNat) := K1066.trans f1322
                have K1334 : nN M1314 o0 := f1323
                have K1335 : rv M1314 o0 19 = 0 → rD M1045 M1314 o0 (880 + ra M0 o0 6 44).toNat := f1326
                have q1336 := J1317.keep t1059 (by decide) q1068
                have t1337 := J1317.up t1069
                refine mv_goto (tgt := 165) d_TrustDeskModel_readClause_120 (by decide) ?_
                refine mv_aload_n d_TrustDeskModel_readClause_165 rfl rfl ?_
                refine mv_bipush (v := 59) d_TrustDeskModel_readClause_166 (by decide) ?_
                obtain ⟨_, b1344, -⟩ := I1318.1 _ _ t1327
                have : (59 : Int32).toInt = 59 := by decide
                refine mv_callV (kc' := 0) (ks' := 0) (As := [.int 59]) (st9 := [.int 59, .ref o0]) d_TrustDeskModel_readClause_168 lV_TrustDeskModel_291 b1344 rfl (tc_TrustDeskModel_wantSign_x (d := (d + 23)) (x9 := x9) (o0 := o0) (x1 := 59) t1327 R1320 E1331.1 (by have := R1320.1 15 _ _ rfl; have := R1320.1 16 _ _ rfl; have := R1320.1 19 _ _ rfl; have := E1331.f yS; omega) I1318.start) rfl (Nat.le_of_ble_eq_true rfl) (Nat.le_of_ble_eq_true rfl) (Nat.le_of_ble_eq_true rfl) (hst := rfl) (fun b1338r M1339 n1340 b1338 => ?_)
                obtain ⟨T1341, J1342, rfl, R1345, f1346⟩ := b1338
                have I1343 := I1318.call J1342 (tm_sub (by decide)) (Or.inl rfl)
                have t1347 := J1342.up t1327
                have z1348 := (rv_c I1318 J1342 (I1318.up h_o0) (k := 22) rfl)
                have z1349 := (rv_c I1318 J1342 (I1318.up h_o0) (k := 24) rfl)
                have z1350 := (ra_call I1318 J1342 (I1318.up h_o0) (k := 5) rfl rfl rfl 44)
                have z1351 := (ra_call I1318 J1342 (I1318.up h_o0) (k := 6) rfl rfl rfl 44).trans z1328
                have z1352 := (ra_call I1318 J1342 (I1318.up h_o0) (k := 7) rfl rfl rfl ((880 + ra M0 o0 6 44).toNat)).trans z1329
                have z1353 := (ra_call I1318 J1342 (I1318.up h_o0) (k := 10) rfl rfl rfl ((880 + ra M0 o0 6 44).toNat)).trans z1330
                have z1354 := (ra_call I1318 J1342 (I1318.up h_o0) (k := 8) rfl rfl rfl ((880 + ra M0 o0 6 44).toNat))
                have E1355 : rE M0 M1339 o0 2 2 := E1331.trans f1346 (by decide) (yR.2 5 _ _ rfl 44).1 (by decide) (by decide)
                have := f1346.w
                have := f1346.w2
                have K1356 : rK M0 M1339 o0 ((880 + ra M0 o0 6 44).toNat) := K1333.same (sA_c I1318 J1342 (I1318.up h_o0) (by decide))
                have K1357 : nN M1339 o0 := K1334.same (sA_c I1318 J1342 (I1318.up h_o0) (by decide)) (sF_c I1318 J1342 (I1318.up h_o0) (by decide))
                have K1358 : rv M1339 o0 19 = 0 → rD M1045 M1339 o0 (880 + ra M0 o0 6 44).toNat := (fun w9 => (K1335 (f1346.w.2 w9)).same (sA_c I1318 J1342 (I1318.up h_o0) (by decide)))
                clear z1328 z1329 z1330
                have q1359 := J1342.keep t1327 (by decide) q1336
                have t1360 := J1342.up t1337
                refine mv_aload_n d_TrustDeskModel_readClause_171 rfl rfl ?_
                obtain ⟨a1362, q1361, t_a1362⟩ := tm_atR I1343 t1347 (k := 12) rfl
                refine tr_getK q1361 d_TrustDeskModel_readClause_172 f_TrustDeskModel_41_13 ?_
                refine mv_iload_n d_TrustDeskModel_readClause_175 rfl rfl ?_
                refine mv_aload_n d_TrustDeskModel_readClause_176 rfl rfl ?_
                obtain ⟨a1364, q1363, t_a1364⟩ := tm_atR I1343 t1347 (k := 5) rfl
                refine tr_getK q1363 d_TrustDeskModel_readClause_177 f_TrustDeskModel_20_13 ?_
                refine mv_bipush (v := 44) d_TrustDeskModel_readClause_180 (by decide) ?_
                refine tr_ialdR (o := o0) (k := 5) I1343 q1363 t_a1364 (by decide) d_TrustDeskModel_readClause_182 (by unfold vp_in; decide) (fun v1365 e1366 => ?_)
                have := R1345.a (k := 5) rfl (44 : Int32).toNatClampNeg
                have : v1365.toInt = ra M1339 o0 5 44 := e1366
                have : v1365.toInt = _ := Eq.trans e1366 z1350
                refine tr_iastR (k := 12) I1343 R1345 (I1343.up h_o0) q1361 t_a1362 (by decide) (by decide) (fun lo hi h => by cases h; have := R1345.1 15 _ _ rfl; have := R1345.1 16 _ _ rfl; have := R1345.1 19 _ _ rfl; have := E1355.f yS; exact ⟨by show (0 : Int) ≤ v1365.toInt; omega, by show v1365.toInt ≤ (400 : Int); omega⟩) (Or.inl (by decide)) d_TrustDeskModel_readClause_183 (vp_in_iff.mpr (by have := R1345.1 15 _ _ rfl; have := R1345.1 16 _ _ rfl; have := R1345.1 19 _ _ rfl; have := E1355.f yS; omega)) (fun M1367 I1368 K1369 R1370 E1371 A1372 V1373 => ?_)
                have z1374 := (V1373 15)
                have z1375 := (V1373 16)
                have z1376 := (V1373 17)
                have z1377 := (V1373 19)
                have z1378 := (V1373 22).trans z1348
                have z1379 := (V1373 24).trans z1349
                have z1380 := (A1372 5 (by decide) rfl 44).trans z1350
                have z1381 := (A1372 6 (by decide) rfl 44).trans z1351
                have z1382 := (A1372 7 (by decide) rfl ((880 + ra M0 o0 6 44).toNat)).trans z1352
                have z1383 := (A1372 10 (by decide) rfl ((880 + ra M0 o0 6 44).toNat)).trans z1353
                have z1384 := (A1372 8 (by decide) rfl ((880 + ra M0 o0 6 44).toNat)).trans z1354
                have E1385 : rE M0 M1367 o0 2 2 := E1355.same (fun k _ _ => V1373 k) (fun k h1 h2 => A1372 k (by omega) (by rcases (show k = 4 ∨ k = 5 by omega) with rfl | rfl <;> rfl))
                have h1386 : (880 + ra M0 o0 6 44).toNat = v1051.toNatClampNeg := by have := mz_nat9 (i := v1051) (by have := R1345.1 15 _ _ rfl; have := R1345.1 16 _ _ rfl; have := R1345.1 19 _ _ rfl; have := E1355.f yS; omega); have := R1345.1 15 _ _ rfl; have := R1345.1 16 _ _ rfl; have := R1345.1 19 _ _ rfl; have := E1355.f yS; omega
                have z1387 : ra M1367 o0 12 ((880 + ra M0 o0 6 44).toNat) = v1365.toInt := (E1371 _).trans (if_pos h1386)
                have K1388 : rK M0 M1367 o0 ((880 + ra M0 o0 6 44).toNat) := K1356.st A1372 E1371 (by have := mz_nat9 (i := v1051) (by have := R1345.1 15 _ _ rfl; have := R1345.1 16 _ _ rfl; have := R1345.1 19 _ _ rfl; have := E1355.f yS; omega); have := R1345.1 15 _ _ rfl; have := R1345.1 16 _ _ rfl; have := R1345.1 19 _ _ rfl; have := E1355.f yS; omega)
                have K1389 : nN M1367 o0 := K1357.same (sA_a A1372 (by decide)) (sF_a V1373)
                have K1390 : rv M1367 o0 19 = 0 → rD M1045 M1367 o0 (880 + ra M0 o0 6 44).toNat := (fun w9 => (K1358 (by have e9 := ((sF_a V1373) : sF [19] _ _ _) 19 rfl; rw [← e9]; exact w9)).same (sA_a A1372 (by decide)))
                clear z1348 z1349 z1350 z1351 z1352 z1353 z1354
                exact mv_vret d_TrustDeskModel_readClause_184 rfl ⟨_, I1368, rfl, R1370, (rW.of E1385.1 (fun w9 => (by have := R1370.1 15 _ _ rfl; have := R1370.1 16 _ _ rfl; have := R1370.1 19 _ _ rfl; have := E1385.f yS; omega)) (fun w9 => rG.step yG yR E1385 w9 K1388 (by have := yR.2 6 _ _ rfl 44; omega) (by have := R1370.1 15 _ _ rfl; have := R1370.1 16 _ _ rfl; have := R1370.1 19 _ _ rfl; have := E1385.f yS; omega) (by have := R1370.1 15 _ _ rfl; have := R1370.1 16 _ _ rfl; have := R1370.1 19 _ _ rfl; have := E1385.f yS; omega) (fun _ => rowN.ofD (K1390 w9) (by have := R1370.1 15 _ _ rfl; have := R1370.1 16 _ _ rfl; have := R1370.1 19 _ _ rfl; have := E1385.f yS; omega) (by have := R1370.1 15 _ _ rfl; have := R1370.1 16 _ _ rfl; have := R1370.1 19 _ _ rfl; have := E1385.f yS; omega)) (fun h9 => (by have := R1370.1 15 _ _ rfl; have := R1370.1 16 _ _ rfl; have := R1370.1 19 _ _ rfl; have := E1385.f yS; omega)) (by have := R1370.1 15 _ _ rfl; have := R1370.1 16 _ _ rfl; have := R1370.1 19 _ _ rfl; have := E1385.f yS; omega) K1389)), (rO.of E1385 K1388 (by have := yR.2 6 _ _ rfl 44; omega)), (by have := R1370.1 15 _ _ rfl; have := R1370.1 16 _ _ rfl; have := R1370.1 19 _ _ rfl; have := E1385.f yS; omega), (by have := R1370.1 15 _ _ rfl; have := R1370.1 16 _ _ rfl; have := R1370.1 19 _ _ rfl; have := E1385.f yS; omega), (fun _ _ => ⟨(by have := R1370.1 15 _ _ rfl; have := R1370.1 16 _ _ rfl; have := R1370.1 19 _ _ rfl; have := E1385.f yS; omega), (by have := R1370.1 15 _ _ rfl; have := R1370.1 16 _ _ rfl; have := R1370.1 19 _ _ rfl; have := E1385.f yS; omega)⟩)⟩
        · refine mv_aload_n d_TrustDeskModel_readClause_65 rfl rfl ?_
          refine mv_iconst (v := 4) d_TrustDeskModel_readClause_66 (by decide) ?_
          obtain ⟨_, b1397, -⟩ := I8.1 _ _ t17
          have : (4 : Int32).toInt = 4 := by decide
          refine mv_callV (kc' := 0) (ks' := 0) (As := [.int 4]) (st9 := [.int 4, .ref o0]) d_TrustDeskModel_readClause_67 lV_TrustDeskModel_240 b1397 rfl (tc_TrustDeskModel_fails_x (d := (d + 25)) (x9 := x9) (o0 := o0) (x1 := 4) t17 R13 (by decide) I8.start) rfl (Nat.le_of_ble_eq_true rfl) (Nat.le_of_ble_eq_true rfl) (Nat.le_of_ble_eq_true rfl) (hst := rfl) (fun b1391r M1392 n1393 b1391 => ?_)
          obtain ⟨T1394, J1395, rfl, R1398, f1399⟩ := b1391
          have I1396 := I8.call J1395 (tm_sub (by decide)) (Or.inl rfl)
          have t1400 := J1395.up t17
          have z1401 := (rv_c I8 J1395 (I8.up h_o0) (k := 15) rfl).trans z18
          have z1402 := (rv_c I8 J1395 (I8.up h_o0) (k := 16) rfl).trans z19
          have z1403 := (rv_c I8 J1395 (I8.up h_o0) (k := 17) rfl).trans z20
          have z1404 := (rv_c I8 J1395 (I8.up h_o0) (k := 22) rfl).trans z22
          have z1405 := (rv_c I8 J1395 (I8.up h_o0) (k := 24) rfl).trans z23
          have z1406 := (ra_call I8 J1395 (I8.up h_o0) (k := 5) rfl rfl rfl 44).trans z24
          have z1407 := (ra_call I8 J1395 (I8.up h_o0) (k := 6) rfl rfl rfl 44).trans z25
          have E1408 : rE M0 M1392 o0 0 0 := E26.fails (rE_hv I8 J1395 (I8.up h_o0) 15 18 (by decide)) (rE_ha I8 J1395 (I8.up h_o0) (by decide)) f1399 0 0
          have K1409 : rK M0 M1392 o0 ((880 + ra M0 o0 6 44).toNat) := K27.same (sA_c I8 J1395 (I8.up h_o0) (by decide))
          have K1410 : nN M1392 o0 := K28.same (sA_c I8 J1395 (I8.up h_o0) (by decide)) (sF_c I8 J1395 (I8.up h_o0) (by decide))
          clear z18 z19 z20 z22 z23 z24 z25
          have q1411 := J1395.keep t17 (by decide) q30
          have t1412 := J1395.up t_a31
          have q1413 := J1395.keep t17 (by decide) q546
          refine mv_aload_n d_TrustDeskModel_readClause_70 rfl rfl ?_
          obtain ⟨_, b1414, -⟩ := I1396.1 _ _ t1400
          refine mv_callV (kc1 := 0) (ks1 := 0) (kc' := 0) (ks' := 0) (As := []) (st9 := [.ref o0]) d_TrustDeskModel_readClause_71 lV_TrustDeskModel_230 b1414 rfl (mj_enter (by decide) (Nat.le_of_ble_eq_true rfl) ?_) rfl (Nat.le_of_ble_eq_true rfl) (Nat.le_of_ble_eq_true rfl) (Nat.le_of_ble_eq_true rfl) (hst := rfl) (fun _ _ _ h => h)
          refine mv_aload_n d_TrustDeskModel_isWell_0 rfl rfl ?_
          obtain ⟨v1416, q1415⟩ := tm_atI I1396 t1400 (k := 19) rfl
          refine tr_getK q1415 d_TrustDeskModel_isWell_1 f_TrustDeskModel_224_13 ?_
          have := R1398.f (k := 19) q1415 rfl
          have := tm_rv q1415
          refine mv_if_neZ (tgt := 11) (a := v1416.toInt) d_TrustDeskModel_isWell_4 (by decide) rfl (fun b1417 => ?_) (fun b1417 => ?_)
          · refine mv_iconst (v := 0) d_TrustDeskModel_isWell_11 (by decide) ?_
            refine mv_iret d_TrustDeskModel_isWell_12 rfl (by decide) ?_
            refine mv_if_ne_f (tgt := 78) d_TrustDeskModel_readClause_74 (by decide) (by decide) ?_
            exact mv_vret d_TrustDeskModel_readClause_77 rfl ⟨_, I1396, rfl, R1398, (rW.of E1408.1 (fun h9 => absurd h9 (by have := R1398.1 15 _ _ rfl; have := R1398.1 16 _ _ rfl; have := R1398.1 19 _ _ rfl; have := E1408.f yS; omega)) (fun h9 => absurd h9 (by have := R1398.1 15 _ _ rfl; have := R1398.1 16 _ _ rfl; have := R1398.1 19 _ _ rfl; have := E1408.f yS; omega))), (rO.of E1408 K1409 (by have := yR.2 6 _ _ rfl 44; omega)), (by have := R1398.1 15 _ _ rfl; have := R1398.1 16 _ _ rfl; have := R1398.1 19 _ _ rfl; have := E1408.f yS; omega), (by have := R1398.1 15 _ _ rfl; have := R1398.1 16 _ _ rfl; have := R1398.1 19 _ _ rfl; have := E1408.f yS; omega), (fun _ h9 => absurd h9 (by have := R1398.1 15 _ _ rfl; have := R1398.1 16 _ _ rfl; have := R1398.1 19 _ _ rfl; have := E1408.f yS; omega))⟩
          · exfalso
            have := R1398.1 15 _ _ rfl; have := R1398.1 16 _ _ rfl; have := R1398.1 19 _ _ rfl; have := E1408.f yS; omega
  · refine mv_aload_n d_TrustDeskModel_readClause_12 rfl rfl ?_
    refine mv_ldcSw (id := 43) (tx := "mark") d_TrustDeskModel_readClause_13 (List.mem_of_getElem? (i := 33) rfl) ?_
    obtain ⟨_, b1424, -⟩ := I8.1 _ _ t17
    refine mv_callV (kc' := 0) (ks' := 0) (As := [.ref 43]) (st9 := [.ref 43, .ref o0]) d_TrustDeskModel_readClause_16 lV_TrustDeskModel_244 b1424 rfl (tc_TrustDeskModel_isWord_s1_43_x (d := (d + 21)) (x9 := x9) (o0 := o0) t17 R13 I8.start) rfl (Nat.le_of_ble_eq_true rfl) (Nat.le_of_ble_eq_true rfl) (Nat.le_of_ble_eq_true rfl) (hst := rfl) (fun b1418r M1419 n1420 b1418 => ?_)
    obtain ⟨T1421, J1422, v1425, rfl, b1426, b1427, R1428, f1429⟩ := b1418
    have I1423 := I8.call J1422 (tm_sub (by decide)) (Or.inl rfl)
    have t1430 := J1422.up t17
    have z1431 := (rv_c I8 J1422 (I8.up h_o0) (k := 15) rfl).trans z18
    have z1432 := (rv_c I8 J1422 (I8.up h_o0) (k := 16) rfl).trans z19
    have z1433 := (rv_c I8 J1422 (I8.up h_o0) (k := 17) rfl).trans z20
    have z1434 := (rv_c I8 J1422 (I8.up h_o0) (k := 19) rfl).trans z21
    have z1435 := (rv_c I8 J1422 (I8.up h_o0) (k := 22) rfl).trans z22
    have z1436 := (rv_c I8 J1422 (I8.up h_o0) (k := 24) rfl).trans z23
    have z1437 := (ra_call I8 J1422 (I8.up h_o0) (k := 5) rfl rfl rfl 44).trans z24
    have z1438 := (ra_call I8 J1422 (I8.up h_o0) (k := 6) rfl rfl rfl 44).trans z25
    have E1439 : rE M0 M1419 o0 0 0 := E26.same (rE_hv I8 J1422 (I8.up h_o0) 15 19 (by decide)) (rE_ha I8 J1422 (I8.up h_o0) (by decide))
    have K1440 : rK M0 M1419 o0 ((880 + ra M0 o0 6 44).toNat) := K27.same (sA_c I8 J1422 (I8.up h_o0) (by decide))
    have K1441 : nN M1419 o0 := K28.same (sA_c I8 J1422 (I8.up h_o0) (by decide)) (sF_c I8 J1422 (I8.up h_o0) (by decide))
    clear z18 z19 z21 z22 z23 z24 z25
    have := mz_hi v1425
    refine mv_if_neZ (tgt := 40) (a := v1425.toInt) d_TrustDeskModel_readClause_19 (by decide) rfl (fun b1442 => ?_) (fun b1442 => ?_)
    · refine mv_aload_n d_TrustDeskModel_readClause_40 rfl rfl ?_
      obtain ⟨a1444, q1443, t_a1444⟩ := tm_atR I1423 t1430 (k := 6) rfl
      refine tr_getK q1443 d_TrustDeskModel_readClause_41 f_TrustDeskModel_23_13 ?_
      refine mv_bipush (v := 44) d_TrustDeskModel_readClause_44 (by decide) ?_
      refine tr_ialdR (o := o0) (k := 6) I1423 q1443 t_a1444 (by decide) d_TrustDeskModel_readClause_46 (by unfold vp_in; decide) (fun v1445 e1446 => ?_)
      have := R1428.a (k := 6) rfl (44 : Int32).toNatClampNeg
      have : v1445.toInt = ra M1419 o0 6 44 := e1446
      have : v1445.toInt = _ := Eq.trans e1446 z1438
      refine mv_bipush (v := 12) d_TrustDeskModel_readClause_47 (by decide) ?_
      have := mz_hi v1445
      refine mv_icmp_eqZ (tgt := 65) (a := v1445.toInt) (b := 12) d_TrustDeskModel_readClause_49 (by decide) rfl (by decide) (fun b1447 => ?_) (fun b1447 => ?_)
      · refine mv_aload_n d_TrustDeskModel_readClause_65 rfl rfl ?_
        refine mv_iconst (v := 4) d_TrustDeskModel_readClause_66 (by decide) ?_
        obtain ⟨_, b1454, -⟩ := I1423.1 _ _ t1430
        have : (4 : Int32).toInt = 4 := by decide
        refine mv_callV (kc' := 0) (ks' := 0) (As := [.int 4]) (st9 := [.int 4, .ref o0]) d_TrustDeskModel_readClause_67 lV_TrustDeskModel_240 b1454 rfl (tc_TrustDeskModel_fails_x (d := (d + 25)) (x9 := x9) (o0 := o0) (x1 := 4) t1430 R1428 (by decide) I1423.start) rfl (Nat.le_of_ble_eq_true rfl) (Nat.le_of_ble_eq_true rfl) (Nat.le_of_ble_eq_true rfl) (hst := rfl) (fun b1448r M1449 n1450 b1448 => ?_)
        obtain ⟨T1451, J1452, rfl, R1455, f1456⟩ := b1448
        have I1453 := I1423.call J1452 (tm_sub (by decide)) (Or.inl rfl)
        have t1457 := J1452.up t1430
        have z1458 := (rv_c I1423 J1452 (I1423.up h_o0) (k := 15) rfl).trans z1431
        have z1459 := (rv_c I1423 J1452 (I1423.up h_o0) (k := 16) rfl).trans z1432
        have z1460 := (rv_c I1423 J1452 (I1423.up h_o0) (k := 17) rfl).trans z1433
        have z1461 := (rv_c I1423 J1452 (I1423.up h_o0) (k := 22) rfl).trans z1435
        have z1462 := (rv_c I1423 J1452 (I1423.up h_o0) (k := 24) rfl).trans z1436
        have z1463 := (ra_call I1423 J1452 (I1423.up h_o0) (k := 5) rfl rfl rfl 44).trans z1437
        have z1464 := (ra_call I1423 J1452 (I1423.up h_o0) (k := 6) rfl rfl rfl 44).trans z1438
        have E1465 : rE M0 M1449 o0 0 0 := E1439.fails (rE_hv I1423 J1452 (I1423.up h_o0) 15 18 (by decide)) (rE_ha I1423 J1452 (I1423.up h_o0) (by decide)) f1456 0 0
        have K1466 : rK M0 M1449 o0 ((880 + ra M0 o0 6 44).toNat) := K1440.same (sA_c I1423 J1452 (I1423.up h_o0) (by decide))
        have K1467 : nN M1449 o0 := K1441.same (sA_c I1423 J1452 (I1423.up h_o0) (by decide)) (sF_c I1423 J1452 (I1423.up h_o0) (by decide))
        clear z1431 z1432 z1433 z1435 z1436 z1437 z1438
        have q1468 := J1452.keep t1430 (by decide) q1443
        have t1469 := J1452.up t_a1444
        refine mv_aload_n d_TrustDeskModel_readClause_70 rfl rfl ?_
        obtain ⟨_, b1470, -⟩ := I1453.1 _ _ t1457
        refine mv_callV (kc1 := 0) (ks1 := 0) (kc' := 0) (ks' := 0) (As := []) (st9 := [.ref o0]) d_TrustDeskModel_readClause_71 lV_TrustDeskModel_230 b1470 rfl (mj_enter (by decide) (Nat.le_of_ble_eq_true rfl) ?_) rfl (Nat.le_of_ble_eq_true rfl) (Nat.le_of_ble_eq_true rfl) (Nat.le_of_ble_eq_true rfl) (hst := rfl) (fun _ _ _ h => h)
        refine mv_aload_n d_TrustDeskModel_isWell_0 rfl rfl ?_
        obtain ⟨v1472, q1471⟩ := tm_atI I1453 t1457 (k := 19) rfl
        refine tr_getK q1471 d_TrustDeskModel_isWell_1 f_TrustDeskModel_224_13 ?_
        have := R1455.f (k := 19) q1471 rfl
        have := tm_rv q1471
        refine mv_if_neZ (tgt := 11) (a := v1472.toInt) d_TrustDeskModel_isWell_4 (by decide) rfl (fun b1473 => ?_) (fun b1473 => ?_)
        · refine mv_iconst (v := 0) d_TrustDeskModel_isWell_11 (by decide) ?_
          refine mv_iret d_TrustDeskModel_isWell_12 rfl (by decide) ?_
          refine mv_if_ne_f (tgt := 78) d_TrustDeskModel_readClause_74 (by decide) (by decide) ?_
          exact mv_vret d_TrustDeskModel_readClause_77 rfl ⟨_, I1453, rfl, R1455, (rW.of E1465.1 (fun h9 => absurd h9 (by have := R1455.1 15 _ _ rfl; have := R1455.1 16 _ _ rfl; have := R1455.1 19 _ _ rfl; have := E1465.f yS; omega)) (fun h9 => absurd h9 (by have := R1455.1 15 _ _ rfl; have := R1455.1 16 _ _ rfl; have := R1455.1 19 _ _ rfl; have := E1465.f yS; omega))), (rO.of E1465 K1466 (by have := yR.2 6 _ _ rfl 44; omega)), (by have := R1455.1 15 _ _ rfl; have := R1455.1 16 _ _ rfl; have := R1455.1 19 _ _ rfl; have := E1465.f yS; omega), (by have := R1455.1 15 _ _ rfl; have := R1455.1 16 _ _ rfl; have := R1455.1 19 _ _ rfl; have := E1465.f yS; omega), (fun _ h9 => absurd h9 (by have := R1455.1 15 _ _ rfl; have := R1455.1 16 _ _ rfl; have := R1455.1 19 _ _ rfl; have := E1465.f yS; omega))⟩
        · exfalso
          have := R1455.1 15 _ _ rfl; have := R1455.1 16 _ _ rfl; have := R1455.1 19 _ _ rfl; have := E1465.f yS; omega
      · refine mv_iload_n d_TrustDeskModel_readClause_52 rfl rfl ?_
        have := mz_hi v10
        refine mv_if_eqZ (tgt := 70) (a := v10.toInt) d_TrustDeskModel_readClause_53 (by decide) rfl (fun b1474 => ?_) (fun b1474 => absurd b1474 (by omega))
        refine mv_aload_n d_TrustDeskModel_readClause_70 rfl rfl ?_
        obtain ⟨_, b1475, -⟩ := I1423.1 _ _ t1430
        refine mv_callV (kc1 := 0) (ks1 := 0) (kc' := 0) (ks' := 0) (As := []) (st9 := [.ref o0]) d_TrustDeskModel_readClause_71 lV_TrustDeskModel_230 b1475 rfl (mj_enter (by decide) (Nat.le_of_ble_eq_true rfl) ?_) rfl (Nat.le_of_ble_eq_true rfl) (Nat.le_of_ble_eq_true rfl) (Nat.le_of_ble_eq_true rfl) (hst := rfl) (fun _ _ _ h => h)
        refine mv_aload_n d_TrustDeskModel_isWell_0 rfl rfl ?_
        obtain ⟨v1477, q1476⟩ := tm_atI I1423 t1430 (k := 19) rfl
        refine tr_getK q1476 d_TrustDeskModel_isWell_1 f_TrustDeskModel_224_13 ?_
        have := R1428.f (k := 19) q1476 rfl
        have := (tm_rv q1476).symm.trans z1434
        have := tm_rv q1476
        have := mz_hi v1477
        refine mv_if_neZ (tgt := 11) (a := v1477.toInt) d_TrustDeskModel_isWell_4 (by decide) rfl (fun b1478 => ?_) (fun b1478 => ?_)
        · refine mv_iconst (v := 0) d_TrustDeskModel_isWell_11 (by decide) ?_
          refine mv_iret d_TrustDeskModel_isWell_12 rfl (by decide) ?_
          refine mv_if_ne_f (tgt := 78) d_TrustDeskModel_readClause_74 (by decide) (by decide) ?_
          exact mv_vret d_TrustDeskModel_readClause_77 rfl ⟨_, I1423, rfl, R1428, (rW.of E1439.1 (fun w9 => (by have := R1428.1 15 _ _ rfl; have := R1428.1 16 _ _ rfl; have := R1428.1 19 _ _ rfl; have := E1439.f yS; omega)) (fun w9 => rG.step yG yR E1439 w9 K1440 (by have := yR.2 6 _ _ rfl 44; omega) (by have := R1428.1 15 _ _ rfl; have := R1428.1 16 _ _ rfl; have := R1428.1 19 _ _ rfl; have := E1439.f yS; omega) (by have := R1428.1 15 _ _ rfl; have := R1428.1 16 _ _ rfl; have := R1428.1 19 _ _ rfl; have := E1439.f yS; omega) (fun h9 => by exfalso; have := R1428.1 15 _ _ rfl; have := R1428.1 16 _ _ rfl; have := R1428.1 19 _ _ rfl; have := E1439.f yS; omega) (fun h9 => (by have := R1428.1 15 _ _ rfl; have := R1428.1 16 _ _ rfl; have := R1428.1 19 _ _ rfl; have := E1439.f yS; omega)) (by have := R1428.1 15 _ _ rfl; have := R1428.1 16 _ _ rfl; have := R1428.1 19 _ _ rfl; have := E1439.f yS; omega) K1441)), (rO.of E1439 K1440 (by have := yR.2 6 _ _ rfl 44; omega)), (by have := R1428.1 15 _ _ rfl; have := R1428.1 16 _ _ rfl; have := R1428.1 19 _ _ rfl; have := E1439.f yS; omega), (by have := R1428.1 15 _ _ rfl; have := R1428.1 16 _ _ rfl; have := R1428.1 19 _ _ rfl; have := E1439.f yS; omega), (fun h9 _ => absurd h9 (f16 (by have := R1428.1 15 _ _ rfl; have := R1428.1 16 _ _ rfl; have := R1428.1 19 _ _ rfl; have := E1439.f yS; omega)))⟩
        · refine mv_iconst (v := 1) d_TrustDeskModel_isWell_7 (by decide) ?_
          refine mv_goto (tgt := 12) d_TrustDeskModel_isWell_8 (by decide) ?_
          refine mv_iret d_TrustDeskModel_isWell_12 rfl (by decide) ?_
          refine mv_if_ne_t (tgt := 78) d_TrustDeskModel_readClause_74 (by decide) (by decide) ?_
          refine mv_aload_n d_TrustDeskModel_readClause_78 rfl rfl ?_
          refine mv_ldcSw (id := 43) (tx := "mark") d_TrustDeskModel_readClause_79 (List.mem_of_getElem? (i := 33) rfl) ?_
          obtain ⟨_, b1485, -⟩ := I1423.1 _ _ t1430
          refine mv_callV (kc' := 0) (ks' := 0) (As := [.ref 43]) (st9 := [.ref 43, .ref o0]) d_TrustDeskModel_readClause_82 lV_TrustDeskModel_244 b1485 rfl (tc_TrustDeskModel_isWord_s1_43_x (d := (d + 21)) (x9 := x9) (o0 := o0) t1430 R1428 I1423.start) rfl (Nat.le_of_ble_eq_true rfl) (Nat.le_of_ble_eq_true rfl) (Nat.le_of_ble_eq_true rfl) (hst := rfl) (fun b1479r M1480 n1481 b1479 => ?_)
          obtain ⟨T1482, J1483, v1486, rfl, b1487, b1488, R1489, f1490⟩ := b1479
          have I1484 := I1423.call J1483 (tm_sub (by decide)) (Or.inl rfl)
          have t1491 := J1483.up t1430
          have z1492 := (rv_c I1423 J1483 (I1423.up h_o0) (k := 15) rfl).trans z1431
          have z1493 := (rv_c I1423 J1483 (I1423.up h_o0) (k := 16) rfl).trans z1432
          have z1494 := (rv_c I1423 J1483 (I1423.up h_o0) (k := 17) rfl).trans z1433
          have z1495 := (rv_c I1423 J1483 (I1423.up h_o0) (k := 19) rfl).trans z1434
          have z1496 := (rv_c I1423 J1483 (I1423.up h_o0) (k := 22) rfl).trans z1435
          have z1497 := (rv_c I1423 J1483 (I1423.up h_o0) (k := 24) rfl).trans z1436
          have z1498 := (ra_call I1423 J1483 (I1423.up h_o0) (k := 5) rfl rfl rfl 44).trans z1437
          have z1499 := (ra_call I1423 J1483 (I1423.up h_o0) (k := 6) rfl rfl rfl 44).trans z1438
          have E1500 : rE M0 M1480 o0 0 0 := E1439.same (rE_hv I1423 J1483 (I1423.up h_o0) 15 19 (by decide)) (rE_ha I1423 J1483 (I1423.up h_o0) (by decide))
          have K1501 : rK M0 M1480 o0 ((880 + ra M0 o0 6 44).toNat) := K1440.same (sA_c I1423 J1483 (I1423.up h_o0) (by decide))
          have K1502 : nN M1480 o0 := K1441.same (sA_c I1423 J1483 (I1423.up h_o0) (by decide)) (sF_c I1423 J1483 (I1423.up h_o0) (by decide))
          clear z1431 z1432 z1434 z1435 z1436 z1437 z1438
          have q1503 := J1483.keep t1430 (by decide) q1443
          have t1504 := J1483.up t_a1444
          have q1505 := J1483.keep t1430 (by decide) q1476
          refine mv_istore_n (lv' := [(2, .int v1486), (1, .int v10), (0, .ref o0)]) d_TrustDeskModel_readClause_85 rfl (by decide) rfl ?_
          refine mv_aload_n d_TrustDeskModel_readClause_86 rfl rfl ?_
          refine mv_iload_n d_TrustDeskModel_readClause_87 rfl rfl ?_
          have := mz_hi v10
          refine mv_if_eqZ (tgt := 96) (a := v10.toInt) d_TrustDeskModel_readClause_88 (by decide) rfl (fun b1506 => ?_) (fun b1506 => absurd b1506 (by omega))
          refine mv_iload_n d_TrustDeskModel_readClause_96 rfl rfl ?_
          have := mz_hi v1486
          refine mv_if_eqZ (tgt := 105) (a := v1486.toInt) d_TrustDeskModel_readClause_97 (by decide) rfl (fun b1507 => ?_) (fun b1507 => ?_)
          · refine mv_bipush (v := 9) d_TrustDeskModel_readClause_105 (by decide) ?_
            obtain ⟨_, b1514, -⟩ := I1484.1 _ _ t1491
            have : (9 : Int32).toInt = 9 := by decide
            refine mv_callV (kc' := 0) (ks' := 0) (As := [.int 9]) (st9 := [.int 9, .ref o0]) d_TrustDeskModel_readClause_107 lV_TrustDeskModel_342 b1514 rfl (tc_TrustDeskModel_begin_x (d := (d + 23)) (x9 := x9) (o0 := o0) (x1 := 9) t1491 R1489 E1500.1 (by have := R1489.1 15 _ _ rfl; have := R1489.1 16 _ _ rfl; have := R1489.1 19 _ _ rfl; have := E1500.f yS; omega) (by have := R1489.1 15 _ _ rfl; have := R1489.1 16 _ _ rfl; have := R1489.1 19 _ _ rfl; have := E1500.f yS; omega) (by have := R1489.1 15 _ _ rfl; have := R1489.1 16 _ _ rfl; have := R1489.1 19 _ _ rfl; have := E1500.f yS; omega) (by have := R1489.1 15 _ _ rfl; have := R1489.1 16 _ _ rfl; have := R1489.1 19 _ _ rfl; have := E1500.f yS; omega) I1484.start) rfl (Nat.le_of_ble_eq_true rfl) (Nat.le_of_ble_eq_true rfl) (Nat.le_of_ble_eq_true rfl) (hst := rfl) (fun b1508r M1509 n1510 b1508 => ?_)
            obtain ⟨T1511, J1512, v1515, rfl, R1516, f1517, f1518, f1519, f1520, f1521, f1522⟩ := b1508
            have I1513 := I1484.call J1512 (tm_sub (by decide)) (Or.inl rfl)
            have t1523 := J1512.up t1491
            have z1524 := (rv_c I1484 J1512 (I1484.up h_o0) (k := 19) rfl).trans z1495
            have z1525 := (rv_c I1484 J1512 (I1484.up h_o0) (k := 22) rfl).trans z1496
            have z1526 := (rv_c I1484 J1512 (I1484.up h_o0) (k := 24) rfl).trans z1497
            have z1527 := (ra_call I1484 J1512 (I1484.up h_o0) (k := 5) rfl rfl rfl 44).trans z1498
            have E1528 : rE M0 M1509 o0 0 1 := E1500.trans f1517 (by decide) (yR.2 5 _ _ rfl 44).1 (by decide) (by decide)
            have := f1517.w
            have := f1517.w2
            have h1529 : (880 + ra M1480 o0 6 44).toNat = (880 + ra M0 o0 6 44).toNat := by omega
            rw [h1529] at f1520 f1521 f1522
            have K1530 : rK M0 M1509 o0 ((880 + ra M0 o0 6 44).toNat) := K1501.trans f1522
            have K1531 : nN M1509 o0 := K1502.same (sA_c I1484 J1512 (I1484.up h_o0) (by decide)) (sF_c I1484 J1512 (I1484.up h_o0) (by decide))
            clear z1495 z1496 z1497
            have q1532 := J1512.keep t1491 (by decide) q1503
            have t1533 := J1512.up t1504
            have q1534 := J1512.keep t1491 (by decide) q1505
            refine mv_istore_n (lv' := [(3, .int v1515), (2, .int v1486), (1, .int v10), (0, .ref o0)]) d_TrustDeskModel_readClause_110 rfl (by decide) rfl ?_
            refine mv_iload_n d_TrustDeskModel_readClause_111 rfl rfl ?_
            have := mz_hi v10
            refine mv_if_eqZ (tgt := 123) (a := v10.toInt) d_TrustDeskModel_readClause_112 (by decide) rfl (fun b1535 => ?_) (fun b1535 => absurd b1535 (by omega))
            refine mv_iload_n d_TrustDeskModel_readClause_123 rfl rfl ?_
            have := mz_hi v1486
            refine mv_if_eqZ (tgt := 135) (a := v1486.toInt) d_TrustDeskModel_readClause_124 (by decide) rfl (fun b1536 => ?_) (fun b1536 => absurd b1536 (by omega))
            refine mv_aload_n d_TrustDeskModel_readClause_135 rfl rfl ?_
            obtain ⟨a1538, q1537, t_a1538⟩ := tm_atR I1513 t1523 (k := 8) rfl
            refine tr_getK q1537 d_TrustDeskModel_readClause_136 f_TrustDeskModel_29_13 ?_
            refine mv_iload_n d_TrustDeskModel_readClause_139 rfl rfl ?_
            refine mv_aload_n d_TrustDeskModel_readClause_140 rfl rfl ?_
            refine mv_iconst (v := 1) d_TrustDeskModel_readClause_141 (by decide) ?_
            refine mv_bipush (v := 7) d_TrustDeskModel_readClause_142 (by decide) ?_
            obtain ⟨_, b1545, -⟩ := I1513.1 _ _ t1523
            have : (1 : Int32).toInt = 1 := by decide
            have : (7 : Int32).toInt = 7 := by decide
            refine mv_callV (kc' := 0) (ks' := 0) (As := [.int 1, .int 7]) (st9 := [.int 7, .int 1, .ref o0, .int v1515, .ref a1538]) d_TrustDeskModel_readClause_144 lV_TrustDeskModel_317 b1545 rfl (tc_TrustDeskModel_number_x (d := (d + 23)) (x9 := x9) (o0 := o0) (x1 := 1) (x2 := 7) t1523 R1516 E1528.1 (by have := R1516.1 15 _ _ rfl; have := R1516.1 16 _ _ rfl; have := R1516.1 19 _ _ rfl; have := E1528.f yS; omega) I1513.start) rfl (Nat.le_of_ble_eq_true rfl) (Nat.le_of_ble_eq_true rfl) (Nat.le_of_ble_eq_true rfl) (hst := rfl) (fun b1539r M1540 n1541 b1539 => ?_)
            obtain ⟨T1542, J1543, v1546, rfl, R1547, f1548, f1549⟩ := b1539
            have I1544 := I1513.call J1543 (tm_sub (by decide)) (Or.inl rfl)
            have t1550 := J1543.up t1523
            have t1551 := J1543.up t_a1538
            have z1552 := (rv_c I1513 J1543 (I1513.up h_o0) (k := 22) rfl).trans z1525
            have z1553 := (rv_c I1513 J1543 (I1513.up h_o0) (k := 24) rfl).trans z1526
            have z1554 := (ra_call I1513 J1543 (I1513.up h_o0) (k := 5) rfl rfl rfl 44).trans z1527
            have z1555 := (ra_call I1513 J1543 (I1513.up h_o0) (k := 6) rfl rfl rfl 44)
            have z1556 := (ra_call I1513 J1543 (I1513.up h_o0) (k := 7) rfl rfl rfl ((880 + ra M0 o0 6 44).toNat))
            have z1557 := (ra_call I1513 J1543 (I1513.up h_o0) (k := 10) rfl rfl rfl ((880 + ra M0 o0 6 44).toNat))
            have E1558 : rE M0 M1540 o0 0 2 := E1528.trans f1548 (by decide) (yR.2 5 _ _ rfl 44).1 (by decide) (by decide)
            have := f1548.w
            have := f1548.w2
            have K1559 : rK M0 M1540 o0 ((880 + ra M0 o0 6 44).toNat) := K1530.same (sA_c I1513 J1543 (I1513.up h_o0) (by decide))
            have K1560 : nN M1540 o0 := K1531.same (sA_c I1513 J1543 (I1513.up h_o0) (by decide)) (sF_c I1513 J1543 (I1513.up h_o0) (by decide))
            clear z1525 z1526 z1527
            have q1561 := J1543.keep t1523 (by decide) q1532
            have t1562 := J1543.up t1533
            have q1563 := J1543.keep t1523 (by decide) q1537
            refine tr_iastR (k := 8) I1544 R1547 (I1544.up h_o0) q1563 t1551 (by decide) (by decide) (fun lo hi h => by cases h; have := R1547.1 15 _ _ rfl; have := R1547.1 16 _ _ rfl; have := R1547.1 19 _ _ rfl; have := E1558.f yS; exact ⟨by show ((-1) : Int) ≤ v1546.toInt; omega, by show v1546.toInt ≤ (720 : Int); omega⟩) (Or.inl (by decide)) d_TrustDeskModel_readClause_147 (vp_in_iff.mpr (by have := R1547.1 15 _ _ rfl; have := R1547.1 16 _ _ rfl; have := R1547.1 19 _ _ rfl; have := E1558.f yS; omega)) (fun M1564 I1565 K1566 R1567 E1568 A1569 V1570 => ?_)
            have z1571 := (V1570 15)
            have z1572 := (V1570 16)
            have z1573 := (V1570 17)
            have z1574 := (V1570 19)
            have z1575 := (V1570 22).trans z1552
            have z1576 := (V1570 24).trans z1553
            have z1577 := (A1569 5 (by decide) rfl 44).trans z1554
            have z1578 := (A1569 6 (by decide) rfl 44).trans z1555
            have z1579 := (A1569 7 (by decide) rfl ((880 + ra M0 o0 6 44).toNat)).trans z1556
            have z1580 := (A1569 10 (by decide) rfl ((880 + ra M0 o0 6 44).toNat)).trans z1557
            have E1581 : rE M0 M1564 o0 0 2 := E1558.same (fun k _ _ => V1570 k) (fun k h1 h2 => A1569 k (by omega) (by rcases (show k = 4 ∨ k = 5 by omega) with rfl | rfl <;> rfl))
            have h1582 : (880 + ra M0 o0 6 44).toNat = v1515.toNatClampNeg := by have := mz_nat9 (i := v1515) (by have := R1547.1 15 _ _ rfl; have := R1547.1 16 _ _ rfl; have := R1547.1 19 _ _ rfl; have := E1558.f yS; omega); have := R1547.1 15 _ _ rfl; have := R1547.1 16 _ _ rfl; have := R1547.1 19 _ _ rfl; have := E1558.f yS; omega
            have z1583 : ra M1564 o0 8 ((880 + ra M0 o0 6 44).toNat) = v1546.toInt := (E1568 _).trans (if_pos h1582)
            have K1584 : rK M0 M1564 o0 ((880 + ra M0 o0 6 44).toNat) := K1559.st A1569 E1568 (by have := mz_nat9 (i := v1515) (by have := R1547.1 15 _ _ rfl; have := R1547.1 16 _ _ rfl; have := R1547.1 19 _ _ rfl; have := E1558.f yS; omega); have := R1547.1 15 _ _ rfl; have := R1547.1 16 _ _ rfl; have := R1547.1 19 _ _ rfl; have := E1558.f yS; omega)
            have K1585 : nN M1564 o0 := K1560.same (sA_a A1569 (by decide)) (sF_a V1570)
            clear z1552 z1553 z1554 z1555 z1556 z1557
            refine mv_aload_n d_TrustDeskModel_readClause_148 rfl rfl ?_
            obtain ⟨a1587, q1586, t_a1587⟩ := tm_atR I1565 t1550 (k := 9) rfl
            refine tr_getK q1586 d_TrustDeskModel_readClause_149 f_TrustDeskModel_32_13 ?_
            refine mv_iload_n d_TrustDeskModel_readClause_152 rfl rfl ?_
            refine mv_aload_n d_TrustDeskModel_readClause_153 rfl rfl ?_
            refine mv_iconst (v := 1) d_TrustDeskModel_readClause_154 (by decide) ?_
            refine mv_aload_n d_TrustDeskModel_readClause_155 rfl rfl ?_
            refine tr_getK (k := 8) (K1566 _ 13 8 _ q1563) d_TrustDeskModel_readClause_156 f_TrustDeskModel_29_13 ?_
            refine mv_iload_n d_TrustDeskModel_readClause_159 rfl rfl ?_
            refine tr_ialdR (o := o0) (k := 8) I1565 (K1566 _ 13 8 _ q1563) t1551 (by decide) d_TrustDeskModel_readClause_160 (vp_in_iff.mpr (by have := R1567.1 15 _ _ rfl; have := R1567.1 16 _ _ rfl; have := R1567.1 19 _ _ rfl; have := E1581.f yS; omega)) (fun v1588 e1589 => ?_)
            have := R1567.a (k := 8) rfl (v1515 : Int32).toNatClampNeg
            have h1590 : (880 + ra M0 o0 6 44).toNat = v1515.toNatClampNeg := by have := mz_nat9 (i := v1515) (by have := R1567.1 15 _ _ rfl; have := R1567.1 16 _ _ rfl; have := R1567.1 19 _ _ rfl; have := E1581.f yS; omega); have := R1567.1 15 _ _ rfl; have := R1567.1 16 _ _ rfl; have := R1567.1 19 _ _ rfl; have := E1581.f yS; omega
            have z1591 : v1588.toInt = ra M1564 o0 8 ((880 + ra M0 o0 6 44).toNat) := by rw [e1589, h1590]
            have : v1588.toInt = _ := Eq.trans z1591 z1583
            obtain ⟨_, b1598, -⟩ := I1565.1 _ _ t1550
            have : (1 : Int32).toInt = 1 := by decide
            refine mv_callV (kc' := 0) (ks' := 0) (As := [.int 1, .int v1588]) (st9 := [.int v1588, .int 1, .ref o0, .int v1515, .ref a1587]) d_TrustDeskModel_readClause_161 lV_TrustDeskModel_317 b1598 rfl (tc_TrustDeskModel_number_x (d := (d + 23)) (x9 := x9) (o0 := o0) (x1 := 1) (x2 := v1588) t1550 R1567 E1581.1 (by have := R1567.1 15 _ _ rfl; have := R1567.1 16 _ _ rfl; have := R1567.1 19 _ _ rfl; have := E1581.f yS; omega) I1565.start) rfl (Nat.le_of_ble_eq_true rfl) (Nat.le_of_ble_eq_true rfl) (Nat.le_of_ble_eq_true rfl) (hst := rfl) (fun b1592r M1593 n1594 b1592 => ?_)
            obtain ⟨T1595, J1596, v1599, rfl, R1600, f1601, f1602⟩ := b1592
            have I1597 := I1565.call J1596 (tm_sub (by decide)) (Or.inl rfl)
            have t1603 := J1596.up t1550
            have t1604 := J1596.up t_a1587
            have z1605 := (rv_c I1565 J1596 (I1565.up h_o0) (k := 22) rfl).trans z1575
            have z1606 := (rv_c I1565 J1596 (I1565.up h_o0) (k := 24) rfl).trans z1576
            have z1607 := (ra_call I1565 J1596 (I1565.up h_o0) (k := 5) rfl rfl rfl 44).trans z1577
            have z1608 := (ra_call I1565 J1596 (I1565.up h_o0) (k := 6) rfl rfl rfl 44).trans z1578
            have z1609 := (ra_call I1565 J1596 (I1565.up h_o0) (k := 7) rfl rfl rfl ((880 + ra M0 o0 6 44).toNat)).trans z1579
            have z1610 := (ra_call I1565 J1596 (I1565.up h_o0) (k := 10) rfl rfl rfl ((880 + ra M0 o0 6 44).toNat)).trans z1580
            have z1611 := (ra_call I1565 J1596 (I1565.up h_o0) (k := 8) rfl rfl rfl ((880 + ra M0 o0 6 44).toNat)).trans z1583
            have E1612 : rE M0 M1593 o0 0 3 := E1581.trans f1601 (by decide) (yR.2 5 _ _ rfl 44).1 (by decide) (by decide)
            have := f1601.w
            have := f1601.w2
            have K1613 : rK M0 M1593 o0 ((880 + ra M0 o0 6 44).toNat) := K1584.same (sA_c I1565 J1596 (I1565.up h_o0) (by decide))
            have K1614 : nN M1593 o0 := K1585.same (sA_c I1565 J1596 (I1565.up h_o0) (by decide)) (sF_c I1565 J1596 (I1565.up h_o0) (by decide))
            clear z1575 z1576 z1577 z1578 z1579 z1580 z1583
            have q1615 := J1596.keep t1550 (by decide) (K1566 _ 13 6 _ q1561)
            have t1616 := J1596.up t1562
            have q1617 := J1596.keep t1550 (by decide) (K1566 _ 13 8 _ q1563)
            have t1618 := J1596.up t1551
            have q1619 := J1596.keep t1550 (by decide) q1586
            refine tr_iastR (k := 9) I1597 R1600 (I1597.up h_o0) q1619 t1604 (by decide) (by decide) (fun lo hi h => by cases h) (Or.inl (by decide)) d_TrustDeskModel_readClause_164 (vp_in_iff.mpr (by have := R1600.1 15 _ _ rfl; have := R1600.1 16 _ _ rfl; have := R1600.1 19 _ _ rfl; have := E1612.f yS; omega)) (fun M1620 I1621 K1622 R1623 E1624 A1625 V1626 => ?_)
            have z1627 := (V1626 15)
            have z1628 := (V1626 16)
            have z1629 := (V1626 17)
            have z1630 := (V1626 19)
            have z1631 := (V1626 22).trans z1605
            have z1632 := (V1626 24).trans z1606
            have z1633 := (A1625 5 (by decide) rfl 44).trans z1607
            have z1634 := (A1625 6 (by decide) rfl 44).trans z1608
            have z1635 := (A1625 7 (by decide) rfl ((880 + ra M0 o0 6 44).toNat)).trans z1609
            have z1636 := (A1625 10 (by decide) rfl ((880 + ra M0 o0 6 44).toNat)).trans z1610
            have z1637 := (A1625 8 (by decide) rfl ((880 + ra M0 o0 6 44).toNat)).trans z1611
            have E1638 : rE M0 M1620 o0 0 3 := E1612.same (fun k _ _ => V1626 k) (fun k h1 h2 => A1625 k (by omega) (by rcases (show k = 4 ∨ k = 5 by omega) with rfl | rfl <;> rfl))
            have K1639 : rK M0 M1620 o0 ((880 + ra M0 o0 6 44).toNat) := K1613.same (sA_a A1625 (by decide))
            have K1640 : nN M1620 o0 := K1614.same (sA_a A1625 (by decide)) (sF_a V1626)
            clear z1605 z1606 z1607 z1608 z1609 z1610 z1611
            refine mv_aload_n d_TrustDeskModel_readClause_165 rfl rfl ?_
            refine mv_bipush (v := 59) d_TrustDeskModel_readClause_166 (by decide) ?_
            obtain ⟨_, b1647, -⟩ := I1621.1 _ _ t1603
            have : (59 : Int32).toInt = 59 := by decide
            refine mv_callV (kc' := 0) (ks' := 0) (As := [.int 59]) (st9 := [.int 59, .ref o0]) d_TrustDeskModel_readClause_168 lV_TrustDeskModel_291 b1647 rfl (tc_TrustDeskModel_wantSign_x (d := (d + 23)) (x9 := x9) (o0 := o0) (x1 := 59) t1603 R1623 E1638.1 (by have := R1623.1 15 _ _ rfl; have := R1623.1 16 _ _ rfl; have := R1623.1 19 _ _ rfl; have := E1638.f yS; omega) I1621.start) rfl (Nat.le_of_ble_eq_true rfl) (Nat.le_of_ble_eq_true rfl) (Nat.le_of_ble_eq_true rfl) (hst := rfl) (fun b1641r M1642 n1643 b1641 => ?_)
            obtain ⟨T1644, J1645, rfl, R1648, f1649⟩ := b1641
            have I1646 := I1621.call J1645 (tm_sub (by decide)) (Or.inl rfl)
            have t1650 := J1645.up t1603
            have z1651 := (rv_c I1621 J1645 (I1621.up h_o0) (k := 22) rfl).trans z1631
            have z1652 := (rv_c I1621 J1645 (I1621.up h_o0) (k := 24) rfl).trans z1632
            have z1653 := (ra_call I1621 J1645 (I1621.up h_o0) (k := 5) rfl rfl rfl 44).trans z1633
            have z1654 := (ra_call I1621 J1645 (I1621.up h_o0) (k := 6) rfl rfl rfl 44).trans z1634
            have z1655 := (ra_call I1621 J1645 (I1621.up h_o0) (k := 7) rfl rfl rfl ((880 + ra M0 o0 6 44).toNat)).trans z1635
            have z1656 := (ra_call I1621 J1645 (I1621.up h_o0) (k := 10) rfl rfl rfl ((880 + ra M0 o0 6 44).toNat)).trans z1636
            have z1657 := (ra_call I1621 J1645 (I1621.up h_o0) (k := 8) rfl rfl rfl ((880 + ra M0 o0 6 44).toNat)).trans z1637
            have E1658 : rE M0 M1642 o0 0 4 := E1638.trans f1649 (by decide) (yR.2 5 _ _ rfl 44).1 (by decide) (by decide)
            have := f1649.w
            have := f1649.w2
            have K1659 : rK M0 M1642 o0 ((880 + ra M0 o0 6 44).toNat) := K1639.same (sA_c I1621 J1645 (I1621.up h_o0) (by decide))
            have K1660 : nN M1642 o0 := K1640.same (sA_c I1621 J1645 (I1621.up h_o0) (by decide)) (sF_c I1621 J1645 (I1621.up h_o0) (by decide))
            clear z1631 z1632 z1633 z1634 z1635 z1636 z1637
            have q1661 := J1645.keep t1603 (by decide) (K1622 _ 13 6 _ q1615)
            have t1662 := J1645.up t1616
            have q1663 := J1645.keep t1603 (by decide) (K1622 _ 13 8 _ q1617)
            have t1664 := J1645.up t1618
            have q1665 := J1645.keep t1603 (by decide) (K1622 _ 13 9 _ q1619)
            have t1666 := J1645.up t1604
            refine mv_aload_n d_TrustDeskModel_readClause_171 rfl rfl ?_
            obtain ⟨a1668, q1667, t_a1668⟩ := tm_atR I1646 t1650 (k := 12) rfl
            refine tr_getK q1667 d_TrustDeskModel_readClause_172 f_TrustDeskModel_41_13 ?_
            refine mv_iload_n d_TrustDeskModel_readClause_175 rfl rfl ?_
            refine mv_aload_n d_TrustDeskModel_readClause_176 rfl rfl ?_
            obtain ⟨a1670, q1669, t_a1670⟩ := tm_atR I1646 t1650 (k := 5) rfl
            refine tr_getK q1669 d_TrustDeskModel_readClause_177 f_TrustDeskModel_20_13 ?_
            refine mv_bipush (v := 44) d_TrustDeskModel_readClause_180 (by decide) ?_
            refine tr_ialdR (o := o0) (k := 5) I1646 q1669 t_a1670 (by decide) d_TrustDeskModel_readClause_182 (by unfold vp_in; decide) (fun v1671 e1672 => ?_)
            have := R1648.a (k := 5) rfl (44 : Int32).toNatClampNeg
            have : v1671.toInt = ra M1642 o0 5 44 := e1672
            have : v1671.toInt = _ := Eq.trans e1672 z1653
            refine tr_iastR (k := 12) I1646 R1648 (I1646.up h_o0) q1667 t_a1668 (by decide) (by decide) (fun lo hi h => by cases h; have := R1648.1 15 _ _ rfl; have := R1648.1 16 _ _ rfl; have := R1648.1 19 _ _ rfl; have := E1658.f yS; exact ⟨by show (0 : Int) ≤ v1671.toInt; omega, by show v1671.toInt ≤ (400 : Int); omega⟩) (Or.inl (by decide)) d_TrustDeskModel_readClause_183 (vp_in_iff.mpr (by have := R1648.1 15 _ _ rfl; have := R1648.1 16 _ _ rfl; have := R1648.1 19 _ _ rfl; have := E1658.f yS; omega)) (fun M1673 I1674 K1675 R1676 E1677 A1678 V1679 => ?_)
            have z1680 := (V1679 15)
            have z1681 := (V1679 16)
            have z1682 := (V1679 17)
            have z1683 := (V1679 19)
            have z1684 := (V1679 22).trans z1651
            have z1685 := (V1679 24).trans z1652
            have z1686 := (A1678 5 (by decide) rfl 44).trans z1653
            have z1687 := (A1678 6 (by decide) rfl 44).trans z1654
            have z1688 := (A1678 7 (by decide) rfl ((880 + ra M0 o0 6 44).toNat)).trans z1655
            have z1689 := (A1678 10 (by decide) rfl ((880 + ra M0 o0 6 44).toNat)).trans z1656
            have z1690 := (A1678 8 (by decide) rfl ((880 + ra M0 o0 6 44).toNat)).trans z1657
            have E1691 : rE M0 M1673 o0 0 4 := E1658.same (fun k _ _ => V1679 k) (fun k h1 h2 => A1678 k (by omega) (by rcases (show k = 4 ∨ k = 5 by omega) with rfl | rfl <;> rfl))
            have h1692 : (880 + ra M0 o0 6 44).toNat = v1515.toNatClampNeg := by have := mz_nat9 (i := v1515) (by have := R1648.1 15 _ _ rfl; have := R1648.1 16 _ _ rfl; have := R1648.1 19 _ _ rfl; have := E1658.f yS; omega); have := R1648.1 15 _ _ rfl; have := R1648.1 16 _ _ rfl; have := R1648.1 19 _ _ rfl; have := E1658.f yS; omega
            have z1693 : ra M1673 o0 12 ((880 + ra M0 o0 6 44).toNat) = v1671.toInt := (E1677 _).trans (if_pos h1692)
            have K1694 : rK M0 M1673 o0 ((880 + ra M0 o0 6 44).toNat) := K1659.st A1678 E1677 (by have := mz_nat9 (i := v1515) (by have := R1648.1 15 _ _ rfl; have := R1648.1 16 _ _ rfl; have := R1648.1 19 _ _ rfl; have := E1658.f yS; omega); have := R1648.1 15 _ _ rfl; have := R1648.1 16 _ _ rfl; have := R1648.1 19 _ _ rfl; have := E1658.f yS; omega)
            have K1695 : nN M1673 o0 := K1660.same (sA_a A1678 (by decide)) (sF_a V1679)
            clear z1651 z1652 z1653 z1654 z1655 z1656 z1657
            exact mv_vret d_TrustDeskModel_readClause_184 rfl ⟨_, I1674, rfl, R1676, (rW.of E1691.1 (fun w9 => (by have := R1676.1 15 _ _ rfl; have := R1676.1 16 _ _ rfl; have := R1676.1 19 _ _ rfl; have := E1691.f yS; omega)) (fun w9 => rG.step yG yR E1691 w9 K1694 (by have := yR.2 6 _ _ rfl 44; omega) (by have := R1676.1 15 _ _ rfl; have := R1676.1 16 _ _ rfl; have := R1676.1 19 _ _ rfl; have := E1691.f yS; omega) (by have := R1676.1 15 _ _ rfl; have := R1676.1 16 _ _ rfl; have := R1676.1 19 _ _ rfl; have := E1691.f yS; omega) (fun h9 => by exfalso; have := R1676.1 15 _ _ rfl; have := R1676.1 16 _ _ rfl; have := R1676.1 19 _ _ rfl; have := E1691.f yS; omega) (fun h9 => (by have := R1676.1 15 _ _ rfl; have := R1676.1 16 _ _ rfl; have := R1676.1 19 _ _ rfl; have := E1691.f yS; omega)) (by have := R1676.1 15 _ _ rfl; have := R1676.1 16 _ _ rfl; have := R1676.1 19 _ _ rfl; have := E1691.f yS; omega) K1695)), (rO.of E1691 K1694 (by have := yR.2 6 _ _ rfl 44; omega)), (by have := R1676.1 15 _ _ rfl; have := R1676.1 16 _ _ rfl; have := R1676.1 19 _ _ rfl; have := E1691.f yS; omega), (by have := R1676.1 15 _ _ rfl; have := R1676.1 16 _ _ rfl; have := R1676.1 19 _ _ rfl; have := E1691.f yS; omega), (fun h9 _ => absurd h9 (f16 (by have := R1676.1 15 _ _ rfl; have := R1676.1 16 _ _ rfl; have := R1676.1 19 _ _ rfl; have := E1691.f yS; omega)))⟩
          · refine mv_bipush (v := 7) d_TrustDeskModel_readClause_100 (by decide) ?_
            refine mv_goto (tgt := 107) d_TrustDeskModel_readClause_102 (by decide) ?_
            obtain ⟨_, b1702, -⟩ := I1484.1 _ _ t1491
            have : (7 : Int32).toInt = 7 := by decide
            refine mv_callV (kc' := 0) (ks' := 0) (As := [.int 7]) (st9 := [.int 7, .ref o0]) d_TrustDeskModel_readClause_107 lV_TrustDeskModel_342 b1702 rfl (tc_TrustDeskModel_begin_x (d := (d + 23)) (x9 := x9) (o0 := o0) (x1 := 7) t1491 R1489 E1500.1 (by have := R1489.1 15 _ _ rfl; have := R1489.1 16 _ _ rfl; have := R1489.1 19 _ _ rfl; have := E1500.f yS; omega) (by have := R1489.1 15 _ _ rfl; have := R1489.1 16 _ _ rfl; have := R1489.1 19 _ _ rfl; have := E1500.f yS; omega) (by have := R1489.1 15 _ _ rfl; have := R1489.1 16 _ _ rfl; have := R1489.1 19 _ _ rfl; have := E1500.f yS; omega) (by have := R1489.1 15 _ _ rfl; have := R1489.1 16 _ _ rfl; have := R1489.1 19 _ _ rfl; have := E1500.f yS; omega) I1484.start) rfl (Nat.le_of_ble_eq_true rfl) (Nat.le_of_ble_eq_true rfl) (Nat.le_of_ble_eq_true rfl) (hst := rfl) (fun b1696r M1697 n1698 b1696 => ?_)
            obtain ⟨T1699, J1700, v1703, rfl, R1704, f1705, f1706, f1707, f1708, f1709, f1710⟩ := b1696
            have I1701 := I1484.call J1700 (tm_sub (by decide)) (Or.inl rfl)
            have t1711 := J1700.up t1491
            have z1712 := (rv_c I1484 J1700 (I1484.up h_o0) (k := 19) rfl).trans z1495
            have z1713 := (rv_c I1484 J1700 (I1484.up h_o0) (k := 22) rfl).trans z1496
            have z1714 := (rv_c I1484 J1700 (I1484.up h_o0) (k := 24) rfl).trans z1497
            have z1715 := (ra_call I1484 J1700 (I1484.up h_o0) (k := 5) rfl rfl rfl 44).trans z1498
            have E1716 : rE M0 M1697 o0 0 1 := E1500.trans f1705 (by decide) (yR.2 5 _ _ rfl 44).1 (by decide) (by decide)
            have := f1705.w
            have := f1705.w2
            have h1717 : (880 + ra M1480 o0 6 44).toNat = (880 + ra M0 o0 6 44).toNat := by omega
            rw [h1717] at f1708 f1709 f1710
            have K1718 : rK M0 M1697 o0 ((880 + ra M0 o0 6 44).toNat) := K1501.trans f1710
            have K1719 : nN M1697 o0 := K1502.same (sA_c I1484 J1700 (I1484.up h_o0) (by decide)) (sF_c I1484 J1700 (I1484.up h_o0) (by decide))
            clear z1495 z1496 z1497
            have q1720 := J1700.keep t1491 (by decide) q1503
            have t1721 := J1700.up t1504
            have q1722 := J1700.keep t1491 (by decide) q1505
            refine mv_istore_n (lv' := [(3, .int v1703), (2, .int v1486), (1, .int v10), (0, .ref o0)]) d_TrustDeskModel_readClause_110 rfl (by decide) rfl ?_
            refine mv_iload_n d_TrustDeskModel_readClause_111 rfl rfl ?_
            have := mz_hi v10
            refine mv_if_eqZ (tgt := 123) (a := v10.toInt) d_TrustDeskModel_readClause_112 (by decide) rfl (fun b1723 => ?_) (fun b1723 => absurd b1723 (by omega))
            refine mv_iload_n d_TrustDeskModel_readClause_123 rfl rfl ?_
            have := mz_hi v1486
            refine mv_if_eqZ (tgt := 135) (a := v1486.toInt) d_TrustDeskModel_readClause_124 (by decide) rfl (fun b1724 => ?_) (fun b1724 => ?_)
            · refine mv_aload_n d_TrustDeskModel_readClause_135 rfl rfl ?_
              obtain ⟨a1726, q1725, t_a1726⟩ := tm_atR I1701 t1711 (k := 8) rfl
              refine tr_getK q1725 d_TrustDeskModel_readClause_136 f_TrustDeskModel_29_13 ?_
              refine mv_iload_n d_TrustDeskModel_readClause_139 rfl rfl ?_
              refine mv_aload_n d_TrustDeskModel_readClause_140 rfl rfl ?_
              refine mv_iconst (v := 1) d_TrustDeskModel_readClause_141 (by decide) ?_
              refine mv_bipush (v := 7) d_TrustDeskModel_readClause_142 (by decide) ?_
              obtain ⟨_, b1733, -⟩ := I1701.1 _ _ t1711
              have : (1 : Int32).toInt = 1 := by decide
              have : (7 : Int32).toInt = 7 := by decide
              refine mv_callV (kc' := 0) (ks' := 0) (As := [.int 1, .int 7]) (st9 := [.int 7, .int 1, .ref o0, .int v1703, .ref a1726]) d_TrustDeskModel_readClause_144 lV_TrustDeskModel_317 b1733 rfl (tc_TrustDeskModel_number_x (d := (d + 23)) (x9 := x9) (o0 := o0) (x1 := 1) (x2 := 7) t1711 R1704 E1716.1 (by have := R1704.1 15 _ _ rfl; have := R1704.1 16 _ _ rfl; have := R1704.1 19 _ _ rfl; have := E1716.f yS; omega) I1701.start) rfl (Nat.le_of_ble_eq_true rfl) (Nat.le_of_ble_eq_true rfl) (Nat.le_of_ble_eq_true rfl) (hst := rfl) (fun b1727r M1728 n1729 b1727 => ?_)
              obtain ⟨T1730, J1731, v1734, rfl, R1735, f1736, f1737⟩ := b1727
              have I1732 := I1701.call J1731 (tm_sub (by decide)) (Or.inl rfl)
              have t1738 := J1731.up t1711
              have t1739 := J1731.up t_a1726
              have z1740 := (rv_c I1701 J1731 (I1701.up h_o0) (k := 22) rfl).trans z1713
              have z1741 := (rv_c I1701 J1731 (I1701.up h_o0) (k := 24) rfl).trans z1714
              have z1742 := (ra_call I1701 J1731 (I1701.up h_o0) (k := 5) rfl rfl rfl 44).trans z1715
              have z1743 := (ra_call I1701 J1731 (I1701.up h_o0) (k := 6) rfl rfl rfl 44)
              have z1744 := (ra_call I1701 J1731 (I1701.up h_o0) (k := 7) rfl rfl rfl ((880 + ra M0 o0 6 44).toNat))
              have z1745 := (ra_call I1701 J1731 (I1701.up h_o0) (k := 10) rfl rfl rfl ((880 + ra M0 o0 6 44).toNat))
              have E1746 : rE M0 M1728 o0 0 2 := E1716.trans f1736 (by decide) (yR.2 5 _ _ rfl 44).1 (by decide) (by decide)
              have := f1736.w
              have := f1736.w2
              have K1747 : rK M0 M1728 o0 ((880 + ra M0 o0 6 44).toNat) := K1718.same (sA_c I1701 J1731 (I1701.up h_o0) (by decide))
              have K1748 : nN M1728 o0 := K1719.same (sA_c I1701 J1731 (I1701.up h_o0) (by decide)) (sF_c I1701 J1731 (I1701.up h_o0) (by decide))
              clear z1713 z1714 z1715
              have q1749 := J1731.keep t1711 (by decide) q1720
              have t1750 := J1731.up t1721
              have q1751 := J1731.keep t1711 (by decide) q1725
              refine tr_iastR (k := 8) I1732 R1735 (I1732.up h_o0) q1751 t1739 (by decide) (by decide) (fun lo hi h => by cases h; have := R1735.1 15 _ _ rfl; have := R1735.1 16 _ _ rfl; have := R1735.1 19 _ _ rfl; have := E1746.f yS; exact ⟨by show ((-1) : Int) ≤ v1734.toInt; omega, by show v1734.toInt ≤ (720 : Int); omega⟩) (Or.inl (by decide)) d_TrustDeskModel_readClause_147 (vp_in_iff.mpr (by have := R1735.1 15 _ _ rfl; have := R1735.1 16 _ _ rfl; have := R1735.1 19 _ _ rfl; have := E1746.f yS; omega)) (fun M1752 I1753 K1754 R1755 E1756 A1757 V1758 => ?_)
              have z1759 := (V1758 15)
              have z1760 := (V1758 16)
              have z1761 := (V1758 17)
              have z1762 := (V1758 19)
              have z1763 := (V1758 22).trans z1740
              have z1764 := (V1758 24).trans z1741
              have z1765 := (A1757 5 (by decide) rfl 44).trans z1742
              have z1766 := (A1757 6 (by decide) rfl 44).trans z1743
              have z1767 := (A1757 7 (by decide) rfl ((880 + ra M0 o0 6 44).toNat)).trans z1744
              have z1768 := (A1757 10 (by decide) rfl ((880 + ra M0 o0 6 44).toNat)).trans z1745
              have E1769 : rE M0 M1752 o0 0 2 := E1746.same (fun k _ _ => V1758 k) (fun k h1 h2 => A1757 k (by omega) (by rcases (show k = 4 ∨ k = 5 by omega) with rfl | rfl <;> rfl))
              have h1770 : (880 + ra M0 o0 6 44).toNat = v1703.toNatClampNeg := by have := mz_nat9 (i := v1703) (by have := R1735.1 15 _ _ rfl; have := R1735.1 16 _ _ rfl; have := R1735.1 19 _ _ rfl; have := E1746.f yS; omega); have := R1735.1 15 _ _ rfl; have := R1735.1 16 _ _ rfl; have := R1735.1 19 _ _ rfl; have := E1746.f yS; omega
              have z1771 : ra M1752 o0 8 ((880 + ra M0 o0 6 44).toNat) = v1734.toInt := (E1756 _).trans (if_pos h1770)
              have K1772 : rK M0 M1752 o0 ((880 + ra M0 o0 6 44).toNat) := K1747.st A1757 E1756 (by have := mz_nat9 (i := v1703) (by have := R1735.1 15 _ _ rfl; have := R1735.1 16 _ _ rfl; have := R1735.1 19 _ _ rfl; have := E1746.f yS; omega); have := R1735.1 15 _ _ rfl; have := R1735.1 16 _ _ rfl; have := R1735.1 19 _ _ rfl; have := E1746.f yS; omega)
              have K1773 : nN M1752 o0 := K1748.same (sA_a A1757 (by decide)) (sF_a V1758)
              clear z1740 z1741 z1742 z1743 z1744 z1745
              refine mv_aload_n d_TrustDeskModel_readClause_148 rfl rfl ?_
              obtain ⟨a1775, q1774, t_a1775⟩ := tm_atR I1753 t1738 (k := 9) rfl
              refine tr_getK q1774 d_TrustDeskModel_readClause_149 f_TrustDeskModel_32_13 ?_
              refine mv_iload_n d_TrustDeskModel_readClause_152 rfl rfl ?_
              refine mv_aload_n d_TrustDeskModel_readClause_153 rfl rfl ?_
              refine mv_iconst (v := 1) d_TrustDeskModel_readClause_154 (by decide) ?_
              refine mv_aload_n d_TrustDeskModel_readClause_155 rfl rfl ?_
              refine tr_getK (k := 8) (K1754 _ 13 8 _ q1751) d_TrustDeskModel_readClause_156 f_TrustDeskModel_29_13 ?_
              refine mv_iload_n d_TrustDeskModel_readClause_159 rfl rfl ?_
              refine tr_ialdR (o := o0) (k := 8) I1753 (K1754 _ 13 8 _ q1751) t1739 (by decide) d_TrustDeskModel_readClause_160 (vp_in_iff.mpr (by have := R1755.1 15 _ _ rfl; have := R1755.1 16 _ _ rfl; have := R1755.1 19 _ _ rfl; have := E1769.f yS; omega)) (fun v1776 e1777 => ?_)
              have := R1755.a (k := 8) rfl (v1703 : Int32).toNatClampNeg
              have h1778 : (880 + ra M0 o0 6 44).toNat = v1703.toNatClampNeg := by have := mz_nat9 (i := v1703) (by have := R1755.1 15 _ _ rfl; have := R1755.1 16 _ _ rfl; have := R1755.1 19 _ _ rfl; have := E1769.f yS; omega); have := R1755.1 15 _ _ rfl; have := R1755.1 16 _ _ rfl; have := R1755.1 19 _ _ rfl; have := E1769.f yS; omega
              have z1779 : v1776.toInt = ra M1752 o0 8 ((880 + ra M0 o0 6 44).toNat) := by rw [e1777, h1778]
              have : v1776.toInt = _ := Eq.trans z1779 z1771
              obtain ⟨_, b1786, -⟩ := I1753.1 _ _ t1738
              have : (1 : Int32).toInt = 1 := by decide
              refine mv_callV (kc' := 0) (ks' := 0) (As := [.int 1, .int v1776]) (st9 := [.int v1776, .int 1, .ref o0, .int v1703, .ref a1775]) d_TrustDeskModel_readClause_161 lV_TrustDeskModel_317 b1786 rfl (tc_TrustDeskModel_number_x (d := (d + 23)) (x9 := x9) (o0 := o0) (x1 := 1) (x2 := v1776) t1738 R1755 E1769.1 (by have := R1755.1 15 _ _ rfl; have := R1755.1 16 _ _ rfl; have := R1755.1 19 _ _ rfl; have := E1769.f yS; omega) I1753.start) rfl (Nat.le_of_ble_eq_true rfl) (Nat.le_of_ble_eq_true rfl) (Nat.le_of_ble_eq_true rfl) (hst := rfl) (fun b1780r M1781 n1782 b1780 => ?_)
              obtain ⟨T1783, J1784, v1787, rfl, R1788, f1789, f1790⟩ := b1780
              have I1785 := I1753.call J1784 (tm_sub (by decide)) (Or.inl rfl)
              have t1791 := J1784.up t1738
              have t1792 := J1784.up t_a1775
              have z1793 := (rv_c I1753 J1784 (I1753.up h_o0) (k := 22) rfl).trans z1763
              have z1794 := (rv_c I1753 J1784 (I1753.up h_o0) (k := 24) rfl).trans z1764
              have z1795 := (ra_call I1753 J1784 (I1753.up h_o0) (k := 5) rfl rfl rfl 44).trans z1765
              have z1796 := (ra_call I1753 J1784 (I1753.up h_o0) (k := 6) rfl rfl rfl 44).trans z1766
              have z1797 := (ra_call I1753 J1784 (I1753.up h_o0) (k := 7) rfl rfl rfl ((880 + ra M0 o0 6 44).toNat)).trans z1767
              have z1798 := (ra_call I1753 J1784 (I1753.up h_o0) (k := 10) rfl rfl rfl ((880 + ra M0 o0 6 44).toNat)).trans z1768
              have z1799 := (ra_call I1753 J1784 (I1753.up h_o0) (k := 8) rfl rfl rfl ((880 + ra M0 o0 6 44).toNat)).trans z1771
              have E1800 : rE M0 M1781 o0 0 3 := E1769.trans f1789 (by decide) (yR.2 5 _ _ rfl 44).1 (by decide) (by decide)
              have := f1789.w
              have := f1789.w2
              have K1801 : rK M0 M1781 o0 ((880 + ra M0 o0 6 44).toNat) := K1772.same (sA_c I1753 J1784 (I1753.up h_o0) (by decide))
              have K1802 : nN M1781 o0 := K1773.same (sA_c I1753 J1784 (I1753.up h_o0) (by decide)) (sF_c I1753 J1784 (I1753.up h_o0) (by decide))
              clear z1763 z1764 z1765 z1766 z1767 z1768 z1771
              have q1803 := J1784.keep t1738 (by decide) (K1754 _ 13 6 _ q1749)
              have t1804 := J1784.up t1750
              have q1805 := J1784.keep t1738 (by decide) (K1754 _ 13 8 _ q1751)
              have t1806 := J1784.up t1739
              have q1807 := J1784.keep t1738 (by decide) q1774
              refine tr_iastR (k := 9) I1785 R1788 (I1785.up h_o0) q1807 t1792 (by decide) (by decide) (fun lo hi h => by cases h) (Or.inl (by decide)) d_TrustDeskModel_readClause_164 (vp_in_iff.mpr (by have := R1788.1 15 _ _ rfl; have := R1788.1 16 _ _ rfl; have := R1788.1 19 _ _ rfl; have := E1800.f yS; omega)) (fun M1808 I1809 K1810 R1811 E1812 A1813 V1814 => ?_)
              have z1815 := (V1814 15)
              have z1816 := (V1814 16)
              have z1817 := (V1814 17)
              have z1818 := (V1814 19)
              have z1819 := (V1814 22).trans z1793
              have z1820 := (V1814 24).trans z1794
              have z1821 := (A1813 5 (by decide) rfl 44).trans z1795
              have z1822 := (A1813 6 (by decide) rfl 44).trans z1796
              have z1823 := (A1813 7 (by decide) rfl ((880 + ra M0 o0 6 44).toNat)).trans z1797
              have z1824 := (A1813 10 (by decide) rfl ((880 + ra M0 o0 6 44).toNat)).trans z1798
              have z1825 := (A1813 8 (by decide) rfl ((880 + ra M0 o0 6 44).toNat)).trans z1799
              have E1826 : rE M0 M1808 o0 0 3 := E1800.same (fun k _ _ => V1814 k) (fun k h1 h2 => A1813 k (by omega) (by rcases (show k = 4 ∨ k = 5 by omega) with rfl | rfl <;> rfl))
              have K1827 : rK M0 M1808 o0 ((880 + ra M0 o0 6 44).toNat) := K1801.same (sA_a A1813 (by decide))
              have K1828 : nN M1808 o0 := K1802.same (sA_a A1813 (by decide)) (sF_a V1814)
              clear z1793 z1794 z1795 z1796 z1797 z1798 z1799
              refine mv_aload_n d_TrustDeskModel_readClause_165 rfl rfl ?_
              refine mv_bipush (v := 59) d_TrustDeskModel_readClause_166 (by decide) ?_
              obtain ⟨_, b1835, -⟩ := I1809.1 _ _ t1791
              have : (59 : Int32).toInt = 59 := by decide
              refine mv_callV (kc' := 0) (ks' := 0) (As := [.int 59]) (st9 := [.int 59, .ref o0]) d_TrustDeskModel_readClause_168 lV_TrustDeskModel_291 b1835 rfl (tc_TrustDeskModel_wantSign_x (d := (d + 23)) (x9 := x9) (o0 := o0) (x1 := 59) t1791 R1811 E1826.1 (by have := R1811.1 15 _ _ rfl; have := R1811.1 16 _ _ rfl; have := R1811.1 19 _ _ rfl; have := E1826.f yS; omega) I1809.start) rfl (Nat.le_of_ble_eq_true rfl) (Nat.le_of_ble_eq_true rfl) (Nat.le_of_ble_eq_true rfl) (hst := rfl) (fun b1829r M1830 n1831 b1829 => ?_)
              obtain ⟨T1832, J1833, rfl, R1836, f1837⟩ := b1829
              have I1834 := I1809.call J1833 (tm_sub (by decide)) (Or.inl rfl)
              have t1838 := J1833.up t1791
              have z1839 := (rv_c I1809 J1833 (I1809.up h_o0) (k := 22) rfl).trans z1819
              have z1840 := (rv_c I1809 J1833 (I1809.up h_o0) (k := 24) rfl).trans z1820
              have z1841 := (ra_call I1809 J1833 (I1809.up h_o0) (k := 5) rfl rfl rfl 44).trans z1821
              have z1842 := (ra_call I1809 J1833 (I1809.up h_o0) (k := 6) rfl rfl rfl 44).trans z1822
              have z1843 := (ra_call I1809 J1833 (I1809.up h_o0) (k := 7) rfl rfl rfl ((880 + ra M0 o0 6 44).toNat)).trans z1823
              have z1844 := (ra_call I1809 J1833 (I1809.up h_o0) (k := 10) rfl rfl rfl ((880 + ra M0 o0 6 44).toNat)).trans z1824
              have z1845 := (ra_call I1809 J1833 (I1809.up h_o0) (k := 8) rfl rfl rfl ((880 + ra M0 o0 6 44).toNat)).trans z1825
              have E1846 : rE M0 M1830 o0 0 4 := E1826.trans f1837 (by decide) (yR.2 5 _ _ rfl 44).1 (by decide) (by decide)
              have := f1837.w
              have := f1837.w2
              have K1847 : rK M0 M1830 o0 ((880 + ra M0 o0 6 44).toNat) := K1827.same (sA_c I1809 J1833 (I1809.up h_o0) (by decide))
              have K1848 : nN M1830 o0 := K1828.same (sA_c I1809 J1833 (I1809.up h_o0) (by decide)) (sF_c I1809 J1833 (I1809.up h_o0) (by decide))
              clear z1819 z1820 z1821 z1822 z1823 z1824 z1825
              have q1849 := J1833.keep t1791 (by decide) (K1810 _ 13 6 _ q1803)
              have t1850 := J1833.up t1804
              have q1851 := J1833.keep t1791 (by decide) (K1810 _ 13 8 _ q1805)
              have t1852 := J1833.up t1806
              have q1853 := J1833.keep t1791 (by decide) (K1810 _ 13 9 _ q1807)
              have t1854 := J1833.up t1792
              refine mv_aload_n d_TrustDeskModel_readClause_171 rfl rfl ?_
              obtain ⟨a1856, q1855, t_a1856⟩ := tm_atR I1834 t1838 (k := 12) rfl
              refine tr_getK q1855 d_TrustDeskModel_readClause_172 f_TrustDeskModel_41_13 ?_
              refine mv_iload_n d_TrustDeskModel_readClause_175 rfl rfl ?_
              refine mv_aload_n d_TrustDeskModel_readClause_176 rfl rfl ?_
              obtain ⟨a1858, q1857, t_a1858⟩ := tm_atR I1834 t1838 (k := 5) rfl
              refine tr_getK q1857 d_TrustDeskModel_readClause_177 f_TrustDeskModel_20_13 ?_
              refine mv_bipush (v := 44) d_TrustDeskModel_readClause_180 (by decide) ?_
              refine tr_ialdR (o := o0) (k := 5) I1834 q1857 t_a1858 (by decide) d_TrustDeskModel_readClause_182 (by unfold vp_in; decide) (fun v1859 e1860 => ?_)
              have := R1836.a (k := 5) rfl (44 : Int32).toNatClampNeg
              have : v1859.toInt = ra M1830 o0 5 44 := e1860
              have : v1859.toInt = _ := Eq.trans e1860 z1841
              refine tr_iastR (k := 12) I1834 R1836 (I1834.up h_o0) q1855 t_a1856 (by decide) (by decide) (fun lo hi h => by cases h; have := R1836.1 15 _ _ rfl; have := R1836.1 16 _ _ rfl; have := R1836.1 19 _ _ rfl; have := E1846.f yS; exact ⟨by show (0 : Int) ≤ v1859.toInt; omega, by show v1859.toInt ≤ (400 : Int); omega⟩) (Or.inl (by decide)) d_TrustDeskModel_readClause_183 (vp_in_iff.mpr (by have := R1836.1 15 _ _ rfl; have := R1836.1 16 _ _ rfl; have := R1836.1 19 _ _ rfl; have := E1846.f yS; omega)) (fun M1861 I1862 K1863 R1864 E1865 A1866 V1867 => ?_)
              have z1868 := (V1867 15)
              have z1869 := (V1867 16)
              have z1870 := (V1867 17)
              have z1871 := (V1867 19)
              have z1872 := (V1867 22).trans z1839
              have z1873 := (V1867 24).trans z1840
              have z1874 := (A1866 5 (by decide) rfl 44).trans z1841
              have z1875 := (A1866 6 (by decide) rfl 44).trans z1842
              have z1876 := (A1866 7 (by decide) rfl ((880 + ra M0 o0 6 44).toNat)).trans z1843
              have z1877 := (A1866 10 (by decide) rfl ((880 + ra M0 o0 6 44).toNat)).trans z1844
              have z1878 := (A1866 8 (by decide) rfl ((880 + ra M0 o0 6 44).toNat)).trans z1845
              have E1879 : rE M0 M1861 o0 0 4 := E1846.same (fun k _ _ => V1867 k) (fun k h1 h2 => A1866 k (by omega) (by rcases (show k = 4 ∨ k = 5 by omega) with rfl | rfl <;> rfl))
              have h1880 : (880 + ra M0 o0 6 44).toNat = v1703.toNatClampNeg := by have := mz_nat9 (i := v1703) (by have := R1836.1 15 _ _ rfl; have := R1836.1 16 _ _ rfl; have := R1836.1 19 _ _ rfl; have := E1846.f yS; omega); have := R1836.1 15 _ _ rfl; have := R1836.1 16 _ _ rfl; have := R1836.1 19 _ _ rfl; have := E1846.f yS; omega
              have z1881 : ra M1861 o0 12 ((880 + ra M0 o0 6 44).toNat) = v1859.toInt := (E1865 _).trans (if_pos h1880)
              have K1882 : rK M0 M1861 o0 ((880 + ra M0 o0 6 44).toNat) := K1847.st A1866 E1865 (by have := mz_nat9 (i := v1703) (by have := R1836.1 15 _ _ rfl; have := R1836.1 16 _ _ rfl; have := R1836.1 19 _ _ rfl; have := E1846.f yS; omega); have := R1836.1 15 _ _ rfl; have := R1836.1 16 _ _ rfl; have := R1836.1 19 _ _ rfl; have := E1846.f yS; omega)
              have K1883 : nN M1861 o0 := K1848.same (sA_a A1866 (by decide)) (sF_a V1867)
              clear z1839 z1840 z1841 z1842 z1843 z1844 z1845
              exact mv_vret d_TrustDeskModel_readClause_184 rfl ⟨_, I1862, rfl, R1864, (rW.of E1879.1 (fun w9 => (by have := R1864.1 15 _ _ rfl; have := R1864.1 16 _ _ rfl; have := R1864.1 19 _ _ rfl; have := E1879.f yS; omega)) (fun w9 => rG.step yG yR E1879 w9 K1882 (by have := yR.2 6 _ _ rfl 44; omega) (by have := R1864.1 15 _ _ rfl; have := R1864.1 16 _ _ rfl; have := R1864.1 19 _ _ rfl; have := E1879.f yS; omega) (by have := R1864.1 15 _ _ rfl; have := R1864.1 16 _ _ rfl; have := R1864.1 19 _ _ rfl; have := E1879.f yS; omega) (fun h9 => by exfalso; have := R1864.1 15 _ _ rfl; have := R1864.1 16 _ _ rfl; have := R1864.1 19 _ _ rfl; have := E1879.f yS; omega) (fun h9 => (by have := R1864.1 15 _ _ rfl; have := R1864.1 16 _ _ rfl; have := R1864.1 19 _ _ rfl; have := E1879.f yS; omega)) (by have := R1864.1 15 _ _ rfl; have := R1864.1 16 _ _ rfl; have := R1864.1 19 _ _ rfl; have := E1879.f yS; omega) K1883)), (rO.of E1879 K1882 (by have := yR.2 6 _ _ rfl 44; omega)), (by have := R1864.1 15 _ _ rfl; have := R1864.1 16 _ _ rfl; have := R1864.1 19 _ _ rfl; have := E1879.f yS; omega), (by have := R1864.1 15 _ _ rfl; have := R1864.1 16 _ _ rfl; have := R1864.1 19 _ _ rfl; have := E1879.f yS; omega), (fun h9 _ => absurd h9 (f16 (by have := R1864.1 15 _ _ rfl; have := R1864.1 16 _ _ rfl; have := R1864.1 19 _ _ rfl; have := E1879.f yS; omega)))⟩
            · refine mv_aload_n d_TrustDeskModel_readClause_127 rfl rfl ?_
              refine mv_iload_n d_TrustDeskModel_readClause_128 rfl rfl ?_
              obtain ⟨_, b1890, -⟩ := I1701.1 _ _ t1711
              refine mv_callV (kc' := 0) (ks' := 0) (As := [.int v1703]) (st9 := [.int v1703, .ref o0]) d_TrustDeskModel_readClause_129 lV_TrustDeskModel_348 b1890 rfl (tc_TrustDeskModel_readMarks_x (d := (d + 22)) (x9 := x9) (o0 := o0) (x1 := v1703) t1711 R1704 E1716.1 (by have := R1704.1 15 _ _ rfl; have := R1704.1 16 _ _ rfl; have := R1704.1 19 _ _ rfl; have := E1716.f yS; omega) (by have := R1704.1 15 _ _ rfl; have := R1704.1 16 _ _ rfl; have := R1704.1 19 _ _ rfl; have := E1716.f yS; omega) I1701.start) rfl (Nat.le_of_ble_eq_true rfl) (Nat.le_of_ble_eq_true rfl) (Nat.le_of_ble_eq_true rfl) (hst := rfl) (fun b1884r M1885 n1886 b1884 => ?_)
              obtain ⟨T1887, J1888, rfl, R1891, f1892, f1893, f1894⟩ := b1884
              have I1889 := I1701.call J1888 (tm_sub (by decide)) (Or.inl rfl)
              have t1895 := J1888.up t1711
              have z1896 := (rv_c I1701 J1888 (I1701.up h_o0) (k := 22) rfl).trans z1713
              have z1897 := (rv_c I1701 J1888 (I1701.up h_o0) (k := 24) rfl).trans z1714
              have z1898 := (ra_call I1701 J1888 (I1701.up h_o0) (k := 5) rfl rfl rfl 44).trans z1715
              have z1899 := (ra_call I1701 J1888 (I1701.up h_o0) (k := 6) rfl rfl rfl 44)
              have z1900 := (ra_call I1701 J1888 (I1701.up h_o0) (k := 7) rfl rfl rfl ((880 + ra M0 o0 6 44).toNat))
              have z1901 := (ra_call I1701 J1888 (I1701.up h_o0) (k := 10) rfl rfl rfl ((880 + ra M0 o0 6 44).toNat))
              have E1902 : rE M0 M1885 o0 0 1 := E1716.trans f1892 (by decide) (yR.2 5 _ _ rfl 44).1 (by decide) (by decide)
              have := f1892.w
              have := f1892.w2
              have h1903 : v1703.toNatClampNeg = (880 + ra M0 o0 6 44).toNat := by have := mz_nat9 (i := v1703) (by have := R1704.1 15 _ _ rfl; have := R1704.1 16 _ _ rfl; have := R1704.1 19 _ _ rfl; have := E1716.f yS; omega); have := R1704.1 15 _ _ rfl; have := R1704.1 16 _ _ rfl; have := R1704.1 19 _ _ rfl; have := E1716.f yS; omega
              rw [h1903] at f1893 f1894
              have K1904 : rK M0 M1885 o0 ((880 + ra M0 o0 6 44).toNat) := K1718.one8 (sA_c I1701 J1888 (I1701.up h_o0) (by decide)) f1893
              have K1905 : nN M1885 o0 := K1719.same (sA_c I1701 J1888 (I1701.up h_o0) (by decide)) (sF_c I1701 J1888 (I1701.up h_o0) (by decide))
              clear z1713 z1714 z1715
              have q1906 := J1888.keep t1711 (by decide) q1720
              have t1907 := J1888.up t1721
              refine mv_goto (tgt := 165) d_TrustDeskModel_readClause_132 (by decide) ?_
              refine mv_aload_n d_TrustDeskModel_readClause_165 rfl rfl ?_
              refine mv_bipush (v := 59) d_TrustDeskModel_readClause_166 (by decide) ?_
              obtain ⟨_, b1914, -⟩ := I1889.1 _ _ t1895
              have : (59 : Int32).toInt = 59 := by decide
              refine mv_callV (kc' := 0) (ks' := 0) (As := [.int 59]) (st9 := [.int 59, .ref o0]) d_TrustDeskModel_readClause_168 lV_TrustDeskModel_291 b1914 rfl (tc_TrustDeskModel_wantSign_x (d := (d + 23)) (x9 := x9) (o0 := o0) (x1 := 59) t1895 R1891 E1902.1 (by have := R1891.1 15 _ _ rfl; have := R1891.1 16 _ _ rfl; have := R1891.1 19 _ _ rfl; have := E1902.f yS; omega) I1889.start) rfl (Nat.le_of_ble_eq_true rfl) (Nat.le_of_ble_eq_true rfl) (Nat.le_of_ble_eq_true rfl) (hst := rfl) (fun b1908r M1909 n1910 b1908 => ?_)
              obtain ⟨T1911, J1912, rfl, R1915, f1916⟩ := b1908
              have I1913 := I1889.call J1912 (tm_sub (by decide)) (Or.inl rfl)
              have t1917 := J1912.up t1895
              have z1918 := (rv_c I1889 J1912 (I1889.up h_o0) (k := 22) rfl).trans z1896
              have z1919 := (rv_c I1889 J1912 (I1889.up h_o0) (k := 24) rfl).trans z1897
              have z1920 := (ra_call I1889 J1912 (I1889.up h_o0) (k := 5) rfl rfl rfl 44).trans z1898
              have z1921 := (ra_call I1889 J1912 (I1889.up h_o0) (k := 6) rfl rfl rfl 44).trans z1899
              have z1922 := (ra_call I1889 J1912 (I1889.up h_o0) (k := 7) rfl rfl rfl ((880 + ra M0 o0 6 44).toNat)).trans z1900
              have z1923 := (ra_call I1889 J1912 (I1889.up h_o0) (k := 10) rfl rfl rfl ((880 + ra M0 o0 6 44).toNat)).trans z1901
              have z1924 := (ra_call I1889 J1912 (I1889.up h_o0) (k := 8) rfl rfl rfl ((880 + ra M0 o0 6 44).toNat))
              have E1925 : rE M0 M1909 o0 0 2 := E1902.trans f1916 (by decide) (yR.2 5 _ _ rfl 44).1 (by decide) (by decide)
              have := f1916.w
              have := f1916.w2
              have K1926 : rK M0 M1909 o0 ((880 + ra M0 o0 6 44).toNat) := K1904.same (sA_c I1889 J1912 (I1889.up h_o0) (by decide))
              have K1927 : nN M1909 o0 := K1905.same (sA_c I1889 J1912 (I1889.up h_o0) (by decide)) (sF_c I1889 J1912 (I1889.up h_o0) (by decide))
              clear z1896 z1897 z1898 z1899 z1900 z1901
              have q1928 := J1912.keep t1895 (by decide) q1906
              have t1929 := J1912.up t1907
              refine mv_aload_n d_TrustDeskModel_readClause_171 rfl rfl ?_
              obtain ⟨a1931, q1930, t_a1931⟩ := tm_atR I1913 t1917 (k := 12) rfl
              refine tr_getK q1930 d_TrustDeskModel_readClause_172 f_TrustDeskModel_41_13 ?_
              refine mv_iload_n d_TrustDeskModel_readClause_175 rfl rfl ?_
              refine mv_aload_n d_TrustDeskModel_readClause_176 rfl rfl ?_
              obtain ⟨a1933, q1932, t_a1933⟩ := tm_atR I1913 t1917 (k := 5) rfl
              refine tr_getK q1932 d_TrustDeskModel_readClause_177 f_TrustDeskModel_20_13 ?_
              refine mv_bipush (v := 44) d_TrustDeskModel_readClause_180 (by decide) ?_
              refine tr_ialdR (o := o0) (k := 5) I1913 q1932 t_a1933 (by decide) d_TrustDeskModel_readClause_182 (by unfold vp_in; decide) (fun v1934 e1935 => ?_)
              have := R1915.a (k := 5) rfl (44 : Int32).toNatClampNeg
              have : v1934.toInt = ra M1909 o0 5 44 := e1935
              have : v1934.toInt = _ := Eq.trans e1935 z1920
              refine tr_iastR (k := 12) I1913 R1915 (I1913.up h_o0) q1930 t_a1931 (by decide) (by decide) (fun lo hi h => by cases h; have := R1915.1 15 _ _ rfl; have := R1915.1 16 _ _ rfl; have := R1915.1 19 _ _ rfl; have := E1925.f yS; exact ⟨by show (0 : Int) ≤ v1934.toInt; omega, by show v1934.toInt ≤ (400 : Int); omega⟩) (Or.inl (by decide)) d_TrustDeskModel_readClause_183 (vp_in_iff.mpr (by have := R1915.1 15 _ _ rfl; have := R1915.1 16 _ _ rfl; have := R1915.1 19 _ _ rfl; have := E1925.f yS; omega)) (fun M1936 I1937 K1938 R1939 E1940 A1941 V1942 => ?_)
              have z1943 := (V1942 15)
              have z1944 := (V1942 16)
              have z1945 := (V1942 17)
              have z1946 := (V1942 19)
              have z1947 := (V1942 22).trans z1918
              have z1948 := (V1942 24).trans z1919
              have z1949 := (A1941 5 (by decide) rfl 44).trans z1920
              have z1950 := (A1941 6 (by decide) rfl 44).trans z1921
              have z1951 := (A1941 7 (by decide) rfl ((880 + ra M0 o0 6 44).toNat)).trans z1922
              have z1952 := (A1941 10 (by decide) rfl ((880 + ra M0 o0 6 44).toNat)).trans z1923
              have z1953 := (A1941 8 (by decide) rfl ((880 + ra M0 o0 6 44).toNat)).trans z1924
              have E1954 : rE M0 M1936 o0 0 2 := E1925.same (fun k _ _ => V1942 k) (fun k h1 h2 => A1941 k (by omega) (by rcases (show k = 4 ∨ k = 5 by omega) with rfl | rfl <;> rfl))
              have h1955 : (880 + ra M0 o0 6 44).toNat = v1703.toNatClampNeg := by have := mz_nat9 (i := v1703) (by have := R1915.1 15 _ _ rfl; have := R1915.1 16 _ _ rfl; have := R1915.1 19 _ _ rfl; have := E1925.f yS; omega); have := R1915.1 15 _ _ rfl; have := R1915.1 16 _ _ rfl; have := R1915.1 19 _ _ rfl; have := E1925.f yS; omega
              have z1956 : ra M1936 o0 12 ((880 + ra M0 o0 6 44).toNat) = v1934.toInt := (E1940 _).trans (if_pos h1955)
              have K1957 : rK M0 M1936 o0 ((880 + ra M0 o0 6 44).toNat) := K1926.st A1941 E1940 (by have := mz_nat9 (i := v1703) (by have := R1915.1 15 _ _ rfl; have := R1915.1 16 _ _ rfl; have := R1915.1 19 _ _ rfl; have := E1925.f yS; omega); have := R1915.1 15 _ _ rfl; have := R1915.1 16 _ _ rfl; have := R1915.1 19 _ _ rfl; have := E1925.f yS; omega)
              have K1958 : nN M1936 o0 := K1927.same (sA_a A1941 (by decide)) (sF_a V1942)
              clear z1918 z1919 z1920 z1921 z1922 z1923 z1924
              exact mv_vret d_TrustDeskModel_readClause_184 rfl ⟨_, I1937, rfl, R1939, (rW.of E1954.1 (fun w9 => (by have := R1939.1 15 _ _ rfl; have := R1939.1 16 _ _ rfl; have := R1939.1 19 _ _ rfl; have := E1954.f yS; omega)) (fun w9 => rG.step yG yR E1954 w9 K1957 (by have := yR.2 6 _ _ rfl 44; omega) (by have := R1939.1 15 _ _ rfl; have := R1939.1 16 _ _ rfl; have := R1939.1 19 _ _ rfl; have := E1954.f yS; omega) (by have := R1939.1 15 _ _ rfl; have := R1939.1 16 _ _ rfl; have := R1939.1 19 _ _ rfl; have := E1954.f yS; omega) (fun h9 => by exfalso; have := R1939.1 15 _ _ rfl; have := R1939.1 16 _ _ rfl; have := R1939.1 19 _ _ rfl; have := E1954.f yS; omega) (fun h9 => (by have := R1939.1 15 _ _ rfl; have := R1939.1 16 _ _ rfl; have := R1939.1 19 _ _ rfl; have := E1954.f yS; omega)) (by have := R1939.1 15 _ _ rfl; have := R1939.1 16 _ _ rfl; have := R1939.1 19 _ _ rfl; have := E1954.f yS; omega) K1958)), (rO.of E1954 K1957 (by have := yR.2 6 _ _ rfl 44; omega)), (by have := R1939.1 15 _ _ rfl; have := R1939.1 16 _ _ rfl; have := R1939.1 19 _ _ rfl; have := E1954.f yS; omega), (by have := R1939.1 15 _ _ rfl; have := R1939.1 16 _ _ rfl; have := R1939.1 19 _ _ rfl; have := E1954.f yS; omega), (fun h9 _ => absurd h9 (f16 (by have := R1939.1 15 _ _ rfl; have := R1939.1 16 _ _ rfl; have := R1939.1 19 _ _ rfl; have := E1954.f yS; omega)))⟩
    · refine mv_aload_n d_TrustDeskModel_readClause_22 rfl rfl ?_
      refine mv_ldcSw (id := 44) (tx := "trust") d_TrustDeskModel_readClause_23 (List.mem_of_getElem? (i := 34) rfl) ?_
      obtain ⟨_, b1965, -⟩ := I1423.1 _ _ t1430
      refine mv_callV (kc' := 0) (ks' := 0) (As := [.ref 44]) (st9 := [.ref 44, .ref o0]) d_TrustDeskModel_readClause_26 lV_TrustDeskModel_244 b1965 rfl (tc_TrustDeskModel_isWord_s1_44_x (d := (d + 21)) (x9 := x9) (o0 := o0) t1430 R1428 I1423.start) rfl (Nat.le_of_ble_eq_true rfl) (Nat.le_of_ble_eq_true rfl) (Nat.le_of_ble_eq_true rfl) (hst := rfl) (fun b1959r M1960 n1961 b1959 => ?_)
      obtain ⟨T1962, J1963, v1966, rfl, b1967, b1968, R1969, f1970⟩ := b1959
      have I1964 := I1423.call J1963 (tm_sub (by decide)) (Or.inl rfl)
      have t1971 := J1963.up t1430
      have z1972 := (rv_c I1423 J1963 (I1423.up h_o0) (k := 15) rfl).trans z1431
      have z1973 := (rv_c I1423 J1963 (I1423.up h_o0) (k := 16) rfl).trans z1432
      have z1974 := (rv_c I1423 J1963 (I1423.up h_o0) (k := 17) rfl).trans z1433
      have z1975 := (rv_c I1423 J1963 (I1423.up h_o0) (k := 19) rfl).trans z1434
      have z1976 := (rv_c I1423 J1963 (I1423.up h_o0) (k := 22) rfl).trans z1435
      have z1977 := (rv_c I1423 J1963 (I1423.up h_o0) (k := 24) rfl).trans z1436
      have z1978 := (ra_call I1423 J1963 (I1423.up h_o0) (k := 5) rfl rfl rfl 44).trans z1437
      have z1979 := (ra_call I1423 J1963 (I1423.up h_o0) (k := 6) rfl rfl rfl 44).trans z1438
      have E1980 : rE M0 M1960 o0 0 0 := E1439.same (rE_hv I1423 J1963 (I1423.up h_o0) 15 19 (by decide)) (rE_ha I1423 J1963 (I1423.up h_o0) (by decide))
      have K1981 : rK M0 M1960 o0 ((880 + ra M0 o0 6 44).toNat) := K1440.same (sA_c I1423 J1963 (I1423.up h_o0) (by decide))
      have K1982 : nN M1960 o0 := K1441.same (sA_c I1423 J1963 (I1423.up h_o0) (by decide)) (sF_c I1423 J1963 (I1423.up h_o0) (by decide))
      clear z1431 z1432 z1434 z1435 z1436 z1437 z1438
      have := mz_hi v1966
      refine mv_if_neZ (tgt := 40) (a := v1966.toInt) d_TrustDeskModel_readClause_29 (by decide) rfl (fun b1983 => ?_) (fun b1983 => ?_)
      · refine mv_aload_n d_TrustDeskModel_readClause_40 rfl rfl ?_
        obtain ⟨a1985, q1984, t_a1985⟩ := tm_atR I1964 t1971 (k := 6) rfl
        refine tr_getK q1984 d_TrustDeskModel_readClause_41 f_TrustDeskModel_23_13 ?_
        refine mv_bipush (v := 44) d_TrustDeskModel_readClause_44 (by decide) ?_
        refine tr_ialdR (o := o0) (k := 6) I1964 q1984 t_a1985 (by decide) d_TrustDeskModel_readClause_46 (by unfold vp_in; decide) (fun v1986 e1987 => ?_)
        have := R1969.a (k := 6) rfl (44 : Int32).toNatClampNeg
        have : v1986.toInt = ra M1960 o0 6 44 := e1987
        have : v1986.toInt = _ := Eq.trans e1987 z1979
        refine mv_bipush (v := 12) d_TrustDeskModel_readClause_47 (by decide) ?_
        have := mz_hi v1986
        refine mv_icmp_eqZ (tgt := 65) (a := v1986.toInt) (b := 12) d_TrustDeskModel_readClause_49 (by decide) rfl (by decide) (fun b1988 => ?_) (fun b1988 => ?_)
        · refine mv_aload_n d_TrustDeskModel_readClause_65 rfl rfl ?_
          refine mv_iconst (v := 4) d_TrustDeskModel_readClause_66 (by decide) ?_
          obtain ⟨_, b1995, -⟩ := I1964.1 _ _ t1971
          have : (4 : Int32).toInt = 4 := by decide
          refine mv_callV (kc' := 0) (ks' := 0) (As := [.int 4]) (st9 := [.int 4, .ref o0]) d_TrustDeskModel_readClause_67 lV_TrustDeskModel_240 b1995 rfl (tc_TrustDeskModel_fails_x (d := (d + 25)) (x9 := x9) (o0 := o0) (x1 := 4) t1971 R1969 (by decide) I1964.start) rfl (Nat.le_of_ble_eq_true rfl) (Nat.le_of_ble_eq_true rfl) (Nat.le_of_ble_eq_true rfl) (hst := rfl) (fun b1989r M1990 n1991 b1989 => ?_)
          obtain ⟨T1992, J1993, rfl, R1996, f1997⟩ := b1989
          have I1994 := I1964.call J1993 (tm_sub (by decide)) (Or.inl rfl)
          have t1998 := J1993.up t1971
          have z1999 := (rv_c I1964 J1993 (I1964.up h_o0) (k := 15) rfl).trans z1972
          have z2000 := (rv_c I1964 J1993 (I1964.up h_o0) (k := 16) rfl).trans z1973
          have z2001 := (rv_c I1964 J1993 (I1964.up h_o0) (k := 17) rfl).trans z1974
          have z2002 := (rv_c I1964 J1993 (I1964.up h_o0) (k := 22) rfl).trans z1976
          have z2003 := (rv_c I1964 J1993 (I1964.up h_o0) (k := 24) rfl).trans z1977
          have z2004 := (ra_call I1964 J1993 (I1964.up h_o0) (k := 5) rfl rfl rfl 44).trans z1978
          have z2005 := (ra_call I1964 J1993 (I1964.up h_o0) (k := 6) rfl rfl rfl 44).trans z1979
          have E2006 : rE M0 M1990 o0 0 0 := E1980.fails (rE_hv I1964 J1993 (I1964.up h_o0) 15 18 (by decide)) (rE_ha I1964 J1993 (I1964.up h_o0) (by decide)) f1997 0 0
          have K2007 : rK M0 M1990 o0 ((880 + ra M0 o0 6 44).toNat) := K1981.same (sA_c I1964 J1993 (I1964.up h_o0) (by decide))
          have K2008 : nN M1990 o0 := K1982.same (sA_c I1964 J1993 (I1964.up h_o0) (by decide)) (sF_c I1964 J1993 (I1964.up h_o0) (by decide))
          clear z1972 z1973 z1974 z1976 z1977 z1978 z1979
          have q2009 := J1993.keep t1971 (by decide) q1984
          have t2010 := J1993.up t_a1985
          refine mv_aload_n d_TrustDeskModel_readClause_70 rfl rfl ?_
          obtain ⟨_, b2011, -⟩ := I1994.1 _ _ t1998
          refine mv_callV (kc1 := 0) (ks1 := 0) (kc' := 0) (ks' := 0) (As := []) (st9 := [.ref o0]) d_TrustDeskModel_readClause_71 lV_TrustDeskModel_230 b2011 rfl (mj_enter (by decide) (Nat.le_of_ble_eq_true rfl) ?_) rfl (Nat.le_of_ble_eq_true rfl) (Nat.le_of_ble_eq_true rfl) (Nat.le_of_ble_eq_true rfl) (hst := rfl) (fun _ _ _ h => h)
          refine mv_aload_n d_TrustDeskModel_isWell_0 rfl rfl ?_
          obtain ⟨v2013, q2012⟩ := tm_atI I1994 t1998 (k := 19) rfl
          refine tr_getK q2012 d_TrustDeskModel_isWell_1 f_TrustDeskModel_224_13 ?_
          have := R1996.f (k := 19) q2012 rfl
          have := tm_rv q2012
          refine mv_if_neZ (tgt := 11) (a := v2013.toInt) d_TrustDeskModel_isWell_4 (by decide) rfl (fun b2014 => ?_) (fun b2014 => ?_)
          · refine mv_iconst (v := 0) d_TrustDeskModel_isWell_11 (by decide) ?_
            refine mv_iret d_TrustDeskModel_isWell_12 rfl (by decide) ?_
            refine mv_if_ne_f (tgt := 78) d_TrustDeskModel_readClause_74 (by decide) (by decide) ?_
            exact mv_vret d_TrustDeskModel_readClause_77 rfl ⟨_, I1994, rfl, R1996, (rW.of E2006.1 (fun h9 => absurd h9 (by have := R1996.1 15 _ _ rfl; have := R1996.1 16 _ _ rfl; have := R1996.1 19 _ _ rfl; have := E2006.f yS; omega)) (fun h9 => absurd h9 (by have := R1996.1 15 _ _ rfl; have := R1996.1 16 _ _ rfl; have := R1996.1 19 _ _ rfl; have := E2006.f yS; omega))), (rO.of E2006 K2007 (by have := yR.2 6 _ _ rfl 44; omega)), (by have := R1996.1 15 _ _ rfl; have := R1996.1 16 _ _ rfl; have := R1996.1 19 _ _ rfl; have := E2006.f yS; omega), (by have := R1996.1 15 _ _ rfl; have := R1996.1 16 _ _ rfl; have := R1996.1 19 _ _ rfl; have := E2006.f yS; omega), (fun _ h9 => absurd h9 (by have := R1996.1 15 _ _ rfl; have := R1996.1 16 _ _ rfl; have := R1996.1 19 _ _ rfl; have := E2006.f yS; omega))⟩
          · exfalso
            have := R1996.1 15 _ _ rfl; have := R1996.1 16 _ _ rfl; have := R1996.1 19 _ _ rfl; have := E2006.f yS; omega
        · refine mv_iload_n d_TrustDeskModel_readClause_52 rfl rfl ?_
          have := mz_hi v10
          refine mv_if_eqZ (tgt := 70) (a := v10.toInt) d_TrustDeskModel_readClause_53 (by decide) rfl (fun b2015 => ?_) (fun b2015 => absurd b2015 (by omega))
          refine mv_aload_n d_TrustDeskModel_readClause_70 rfl rfl ?_
          obtain ⟨_, b2016, -⟩ := I1964.1 _ _ t1971
          refine mv_callV (kc1 := 0) (ks1 := 0) (kc' := 0) (ks' := 0) (As := []) (st9 := [.ref o0]) d_TrustDeskModel_readClause_71 lV_TrustDeskModel_230 b2016 rfl (mj_enter (by decide) (Nat.le_of_ble_eq_true rfl) ?_) rfl (Nat.le_of_ble_eq_true rfl) (Nat.le_of_ble_eq_true rfl) (Nat.le_of_ble_eq_true rfl) (hst := rfl) (fun _ _ _ h => h)
          refine mv_aload_n d_TrustDeskModel_isWell_0 rfl rfl ?_
          obtain ⟨v2018, q2017⟩ := tm_atI I1964 t1971 (k := 19) rfl
          refine tr_getK q2017 d_TrustDeskModel_isWell_1 f_TrustDeskModel_224_13 ?_
          have := R1969.f (k := 19) q2017 rfl
          have := (tm_rv q2017).symm.trans z1975
          have := tm_rv q2017
          have := mz_hi v2018
          refine mv_if_neZ (tgt := 11) (a := v2018.toInt) d_TrustDeskModel_isWell_4 (by decide) rfl (fun b2019 => ?_) (fun b2019 => ?_)
          · refine mv_iconst (v := 0) d_TrustDeskModel_isWell_11 (by decide) ?_
            refine mv_iret d_TrustDeskModel_isWell_12 rfl (by decide) ?_
            refine mv_if_ne_f (tgt := 78) d_TrustDeskModel_readClause_74 (by decide) (by decide) ?_
            exact mv_vret d_TrustDeskModel_readClause_77 rfl ⟨_, I1964, rfl, R1969, (rW.of E1980.1 (fun w9 => (by have := R1969.1 15 _ _ rfl; have := R1969.1 16 _ _ rfl; have := R1969.1 19 _ _ rfl; have := E1980.f yS; omega)) (fun w9 => rG.step yG yR E1980 w9 K1981 (by have := yR.2 6 _ _ rfl 44; omega) (by have := R1969.1 15 _ _ rfl; have := R1969.1 16 _ _ rfl; have := R1969.1 19 _ _ rfl; have := E1980.f yS; omega) (by have := R1969.1 15 _ _ rfl; have := R1969.1 16 _ _ rfl; have := R1969.1 19 _ _ rfl; have := E1980.f yS; omega) (fun h9 => by exfalso; have := R1969.1 15 _ _ rfl; have := R1969.1 16 _ _ rfl; have := R1969.1 19 _ _ rfl; have := E1980.f yS; omega) (fun h9 => (by have := R1969.1 15 _ _ rfl; have := R1969.1 16 _ _ rfl; have := R1969.1 19 _ _ rfl; have := E1980.f yS; omega)) (by have := R1969.1 15 _ _ rfl; have := R1969.1 16 _ _ rfl; have := R1969.1 19 _ _ rfl; have := E1980.f yS; omega) K1982)), (rO.of E1980 K1981 (by have := yR.2 6 _ _ rfl 44; omega)), (by have := R1969.1 15 _ _ rfl; have := R1969.1 16 _ _ rfl; have := R1969.1 19 _ _ rfl; have := E1980.f yS; omega), (by have := R1969.1 15 _ _ rfl; have := R1969.1 16 _ _ rfl; have := R1969.1 19 _ _ rfl; have := E1980.f yS; omega), (fun h9 _ => absurd h9 (f16 (by have := R1969.1 15 _ _ rfl; have := R1969.1 16 _ _ rfl; have := R1969.1 19 _ _ rfl; have := E1980.f yS; omega)))⟩
          · refine mv_iconst (v := 1) d_TrustDeskModel_isWell_7 (by decide) ?_
            refine mv_goto (tgt := 12) d_TrustDeskModel_isWell_8 (by decide) ?_
            refine mv_iret d_TrustDeskModel_isWell_12 rfl (by decide) ?_
            refine mv_if_ne_t (tgt := 78) d_TrustDeskModel_readClause_74 (by decide) (by decide) ?_
            refine mv_aload_n d_TrustDeskModel_readClause_78 rfl rfl ?_
            refine mv_ldcSw (id := 43) (tx := "mark") d_TrustDeskModel_readClause_79 (List.mem_of_getElem? (i := 33) rfl) ?_
            obtain ⟨_, b2026, -⟩ := I1964.1 _ _ t1971
            refine mv_callV (kc' := 0) (ks' := 0) (As := [.ref 43]) (st9 := [.ref 43, .ref o0]) d_TrustDeskModel_readClause_82 lV_TrustDeskModel_244 b2026 rfl (tc_TrustDeskModel_isWord_s1_43_x (d := (d + 21)) (x9 := x9) (o0 := o0) t1971 R1969 I1964.start) rfl (Nat.le_of_ble_eq_true rfl) (Nat.le_of_ble_eq_true rfl) (Nat.le_of_ble_eq_true rfl) (hst := rfl) (fun b2020r M2021 n2022 b2020 => ?_)
            obtain ⟨T2023, J2024, v2027, rfl, b2028, b2029, R2030, f2031⟩ := b2020
            have I2025 := I1964.call J2024 (tm_sub (by decide)) (Or.inl rfl)
            have t2032 := J2024.up t1971
            have z2033 := (rv_c I1964 J2024 (I1964.up h_o0) (k := 15) rfl).trans z1972
            have z2034 := (rv_c I1964 J2024 (I1964.up h_o0) (k := 16) rfl).trans z1973
            have z2035 := (rv_c I1964 J2024 (I1964.up h_o0) (k := 17) rfl).trans z1974
            have z2036 := (rv_c I1964 J2024 (I1964.up h_o0) (k := 19) rfl).trans z1975
            have z2037 := (rv_c I1964 J2024 (I1964.up h_o0) (k := 22) rfl).trans z1976
            have z2038 := (rv_c I1964 J2024 (I1964.up h_o0) (k := 24) rfl).trans z1977
            have z2039 := (ra_call I1964 J2024 (I1964.up h_o0) (k := 5) rfl rfl rfl 44).trans z1978
            have z2040 := (ra_call I1964 J2024 (I1964.up h_o0) (k := 6) rfl rfl rfl 44).trans z1979
            have E2041 : rE M0 M2021 o0 0 0 := E1980.same (rE_hv I1964 J2024 (I1964.up h_o0) 15 19 (by decide)) (rE_ha I1964 J2024 (I1964.up h_o0) (by decide))
            have K2042 : rK M0 M2021 o0 ((880 + ra M0 o0 6 44).toNat) := K1981.same (sA_c I1964 J2024 (I1964.up h_o0) (by decide))
            have K2043 : nN M2021 o0 := K1982.same (sA_c I1964 J2024 (I1964.up h_o0) (by decide)) (sF_c I1964 J2024 (I1964.up h_o0) (by decide))
            clear z1972 z1973 z1975 z1976 z1977 z1978 z1979
            have q2044 := J2024.keep t1971 (by decide) q1984
            have t2045 := J2024.up t_a1985
            have q2046 := J2024.keep t1971 (by decide) q2017
            refine mv_istore_n (lv' := [(2, .int v2027), (1, .int v10), (0, .ref o0)]) d_TrustDeskModel_readClause_85 rfl (by decide) rfl ?_
            refine mv_aload_n d_TrustDeskModel_readClause_86 rfl rfl ?_
            refine mv_iload_n d_TrustDeskModel_readClause_87 rfl rfl ?_
            have := mz_hi v10
            refine mv_if_eqZ (tgt := 96) (a := v10.toInt) d_TrustDeskModel_readClause_88 (by decide) rfl (fun b2047 => ?_) (fun b2047 => absurd b2047 (by omega))
            refine mv_iload_n d_TrustDeskModel_readClause_96 rfl rfl ?_
            have := mz_hi v2027
            refine mv_if_eqZ (tgt := 105) (a := v2027.toInt) d_TrustDeskModel_readClause_97 (by decide) rfl (fun b2048 => ?_) (fun b2048 => ?_)
            · refine mv_bipush (v := 9) d_TrustDeskModel_readClause_105 (by decide) ?_
              obtain ⟨_, b2055, -⟩ := I2025.1 _ _ t2032
              have : (9 : Int32).toInt = 9 := by decide
              refine mv_callV (kc' := 0) (ks' := 0) (As := [.int 9]) (st9 := [.int 9, .ref o0]) d_TrustDeskModel_readClause_107 lV_TrustDeskModel_342 b2055 rfl (tc_TrustDeskModel_begin_x (d := (d + 23)) (x9 := x9) (o0 := o0) (x1 := 9) t2032 R2030 E2041.1 (by have := R2030.1 15 _ _ rfl; have := R2030.1 16 _ _ rfl; have := R2030.1 19 _ _ rfl; have := E2041.f yS; omega) (by have := R2030.1 15 _ _ rfl; have := R2030.1 16 _ _ rfl; have := R2030.1 19 _ _ rfl; have := E2041.f yS; omega) (by have := R2030.1 15 _ _ rfl; have := R2030.1 16 _ _ rfl; have := R2030.1 19 _ _ rfl; have := E2041.f yS; omega) (by have := R2030.1 15 _ _ rfl; have := R2030.1 16 _ _ rfl; have := R2030.1 19 _ _ rfl; have := E2041.f yS; omega) I2025.start) rfl (Nat.le_of_ble_eq_true rfl) (Nat.le_of_ble_eq_true rfl) (Nat.le_of_ble_eq_true rfl) (hst := rfl) (fun b2049r M2050 n2051 b2049 => ?_)
              obtain ⟨T2052, J2053, v2056, rfl, R2057, f2058, f2059, f2060, f2061, f2062, f2063⟩ := b2049
              have I2054 := I2025.call J2053 (tm_sub (by decide)) (Or.inl rfl)
              have t2064 := J2053.up t2032
              have z2065 := (rv_c I2025 J2053 (I2025.up h_o0) (k := 19) rfl).trans z2036
              have z2066 := (rv_c I2025 J2053 (I2025.up h_o0) (k := 22) rfl).trans z2037
              have z2067 := (rv_c I2025 J2053 (I2025.up h_o0) (k := 24) rfl).trans z2038
              have z2068 := (ra_call I2025 J2053 (I2025.up h_o0) (k := 5) rfl rfl rfl 44).trans z2039
              have E2069 : rE M0 M2050 o0 0 1 := E2041.trans f2058 (by decide) (yR.2 5 _ _ rfl 44).1 (by decide) (by decide)
              have := f2058.w
              have := f2058.w2
              have h2070 : (880 + ra M2021 o0 6 44).toNat = (880 + ra M0 o0 6 44).toNat := by omega
              rw [h2070] at f2061 f2062 f2063
              have K2071 : rK M0 M2050 o0 ((880 + ra M0 o0 6 44).toNat) := K2042.trans f2063
              have K2072 : nN M2050 o0 := K2043.same (sA_c I2025 J2053 (I2025.up h_o0) (by decide)) (sF_c I2025 J2053 (I2025.up h_o0) (by decide))
              clear z2036 z2037 z2038
              have q2073 := J2053.keep t2032 (by decide) q2044
              have t2074 := J2053.up t2045
              have q2075 := J2053.keep t2032 (by decide) q2046
              refine mv_istore_n (lv' := [(3, .int v2056), (2, .int v2027), (1, .int v10), (0, .ref o0)]) d_TrustDeskModel_readClause_110 rfl (by decide) rfl ?_
              refine mv_iload_n d_TrustDeskModel_readClause_111 rfl rfl ?_
              have := mz_hi v10
              refine mv_if_eqZ (tgt := 123) (a := v10.toInt) d_TrustDeskModel_readClause_112 (by decide) rfl (fun b2076 => ?_) (fun b2076 => absurd b2076 (by omega))
              refine mv_iload_n d_TrustDeskModel_readClause_123 rfl rfl ?_
              have := mz_hi v2027
              refine mv_if_eqZ (tgt := 135) (a := v2027.toInt) d_TrustDeskModel_readClause_124 (by decide) rfl (fun b2077 => ?_) (fun b2077 => absurd b2077 (by omega))
              refine mv_aload_n d_TrustDeskModel_readClause_135 rfl rfl ?_
              obtain ⟨a2079, q2078, t_a2079⟩ := tm_atR I2054 t2064 (k := 8) rfl
              refine tr_getK q2078 d_TrustDeskModel_readClause_136 f_TrustDeskModel_29_13 ?_
              refine mv_iload_n d_TrustDeskModel_readClause_139 rfl rfl ?_
              refine mv_aload_n d_TrustDeskModel_readClause_140 rfl rfl ?_
              refine mv_iconst (v := 1) d_TrustDeskModel_readClause_141 (by decide) ?_
              refine mv_bipush (v := 7) d_TrustDeskModel_readClause_142 (by decide) ?_
              obtain ⟨_, b2086, -⟩ := I2054.1 _ _ t2064
              have : (1 : Int32).toInt = 1 := by decide
              have : (7 : Int32).toInt = 7 := by decide
              refine mv_callV (kc' := 0) (ks' := 0) (As := [.int 1, .int 7]) (st9 := [.int 7, .int 1, .ref o0, .int v2056, .ref a2079]) d_TrustDeskModel_readClause_144 lV_TrustDeskModel_317 b2086 rfl (tc_TrustDeskModel_number_x (d := (d + 23)) (x9 := x9) (o0 := o0) (x1 := 1) (x2 := 7) t2064 R2057 E2069.1 (by have := R2057.1 15 _ _ rfl; have := R2057.1 16 _ _ rfl; have := R2057.1 19 _ _ rfl; have := E2069.f yS; omega) I2054.start) rfl (Nat.le_of_ble_eq_true rfl) (Nat.le_of_ble_eq_true rfl) (Nat.le_of_ble_eq_true rfl) (hst := rfl) (fun b2080r M2081 n2082 b2080 => ?_)
              obtain ⟨T2083, J2084, v2087, rfl, R2088, f2089, f2090⟩ := b2080
              have I2085 := I2054.call J2084 (tm_sub (by decide)) (Or.inl rfl)
              have t2091 := J2084.up t2064
              have t2092 := J2084.up t_a2079
              have z2093 := (rv_c I2054 J2084 (I2054.up h_o0) (k := 22) rfl).trans z2066
              have z2094 := (rv_c I2054 J2084 (I2054.up h_o0) (k := 24) rfl).trans z2067
              have z2095 := (ra_call I2054 J2084 (I2054.up h_o0) (k := 5) rfl rfl rfl 44).trans z2068
              have z2096 := (ra_call I2054 J2084 (I2054.up h_o0) (k := 6) rfl rfl rfl 44)
              have z2097 := (ra_call I2054 J2084 (I2054.up h_o0) (k := 7) rfl rfl rfl ((880 + ra M0 o0 6 44).toNat))
              have z2098 := (ra_call I2054 J2084 (I2054.up h_o0) (k := 10) rfl rfl rfl ((880 + ra M0 o0 6 44).toNat))
              have E2099 : rE M0 M2081 o0 0 2 := E2069.trans f2089 (by decide) (yR.2 5 _ _ rfl 44).1 (by decide) (by decide)
              have := f2089.w
              have := f2089.w2
              have K2100 : rK M0 M2081 o0 ((880 + ra M0 o0 6 44).toNat) := K2071.same (sA_c I2054 J2084 (I2054.up h_o0) (by decide))
              have K2101 : nN M2081 o0 := K2072.same (sA_c I2054 J2084 (I2054.up h_o0) (by decide)) (sF_c I2054 J2084 (I2054.up h_o0) (by decide))
              clear z2066 z2067 z2068
              have q2102 := J2084.keep t2064 (by decide) q2073
              have t2103 := J2084.up t2074
              have q2104 := J2084.keep t2064 (by decide) q2078
              refine tr_iastR (k := 8) I2085 R2088 (I2085.up h_o0) q2104 t2092 (by decide) (by decide) (fun lo hi h => by cases h; have := R2088.1 15 _ _ rfl; have := R2088.1 16 _ _ rfl; have := R2088.1 19 _ _ rfl; have := E2099.f yS; exact ⟨by show ((-1) : Int) ≤ v2087.toInt; omega, by show v2087.toInt ≤ (720 : Int); omega⟩) (Or.inl (by decide)) d_TrustDeskModel_readClause_147 (vp_in_iff.mpr (by have := R2088.1 15 _ _ rfl; have := R2088.1 16 _ _ rfl; have := R2088.1 19 _ _ rfl; have := E2099.f yS; omega)) (fun M2105 I2106 K2107 R2108 E2109 A2110 V2111 => ?_)
              have z2112 := (V2111 15)
              have z2113 := (V2111 16)
              have z2114 := (V2111 17)
              have z2115 := (V2111 19)
              have z2116 := (V2111 22).trans z2093
              have z2117 := (V2111 24).trans z2094
              have z2118 := (A2110 5 (by decide) rfl 44).trans z2095
              have z2119 := (A2110 6 (by decide) rfl 44).trans z2096
              have z2120 := (A2110 7 (by decide) rfl ((880 + ra M0 o0 6 44).toNat)).trans z2097
              have z2121 := (A2110 10 (by decide) rfl ((880 + ra M0 o0 6 44).toNat)).trans z2098
              have E2122 : rE M0 M2105 o0 0 2 := E2099.same (fun k _ _ => V2111 k) (fun k h1 h2 => A2110 k (by omega) (by rcases (show k = 4 ∨ k = 5 by omega) with rfl | rfl <;> rfl))
              have h2123 : (880 + ra M0 o0 6 44).toNat = v2056.toNatClampNeg := by have := mz_nat9 (i := v2056) (by have := R2088.1 15 _ _ rfl; have := R2088.1 16 _ _ rfl; have := R2088.1 19 _ _ rfl; have := E2099.f yS; omega); have := R2088.1 15 _ _ rfl; have := R2088.1 16 _ _ rfl; have := R2088.1 19 _ _ rfl; have := E2099.f yS; omega
              have z2124 : ra M2105 o0 8 ((880 + ra M0 o0 6 44).toNat) = v2087.toInt := (E2109 _).trans (if_pos h2123)
              have K2125 : rK M0 M2105 o0 ((880 + ra M0 o0 6 44).toNat) := K2100.st A2110 E2109 (by have := mz_nat9 (i := v2056) (by have := R2088.1 15 _ _ rfl; have := R2088.1 16 _ _ rfl; have := R2088.1 19 _ _ rfl; have := E2099.f yS; omega); have := R2088.1 15 _ _ rfl; have := R2088.1 16 _ _ rfl; have := R2088.1 19 _ _ rfl; have := E2099.f yS; omega)
              have K2126 : nN M2105 o0 := K2101.same (sA_a A2110 (by decide)) (sF_a V2111)
              clear z2093 z2094 z2095 z2096 z2097 z2098
              refine mv_aload_n d_TrustDeskModel_readClause_148 rfl rfl ?_
              obtain ⟨a2128, q2127, t_a2128⟩ := tm_atR I2106 t2091 (k := 9) rfl
              refine tr_getK q2127 d_TrustDeskModel_readClause_149 f_TrustDeskModel_32_13 ?_
              refine mv_iload_n d_TrustDeskModel_readClause_152 rfl rfl ?_
              refine mv_aload_n d_TrustDeskModel_readClause_153 rfl rfl ?_
              refine mv_iconst (v := 1) d_TrustDeskModel_readClause_154 (by decide) ?_
              refine mv_aload_n d_TrustDeskModel_readClause_155 rfl rfl ?_
              refine tr_getK (k := 8) (K2107 _ 13 8 _ q2104) d_TrustDeskModel_readClause_156 f_TrustDeskModel_29_13 ?_
              refine mv_iload_n d_TrustDeskModel_readClause_159 rfl rfl ?_
              refine tr_ialdR (o := o0) (k := 8) I2106 (K2107 _ 13 8 _ q2104) t2092 (by decide) d_TrustDeskModel_readClause_160 (vp_in_iff.mpr (by have := R2108.1 15 _ _ rfl; have := R2108.1 16 _ _ rfl; have := R2108.1 19 _ _ rfl; have := E2122.f yS; omega)) (fun v2129 e2130 => ?_)
              have := R2108.a (k := 8) rfl (v2056 : Int32).toNatClampNeg
              have h2131 : (880 + ra M0 o0 6 44).toNat = v2056.toNatClampNeg := by have := mz_nat9 (i := v2056) (by have := R2108.1 15 _ _ rfl; have := R2108.1 16 _ _ rfl; have := R2108.1 19 _ _ rfl; have := E2122.f yS; omega); have := R2108.1 15 _ _ rfl; have := R2108.1 16 _ _ rfl; have := R2108.1 19 _ _ rfl; have := E2122.f yS; omega
              have z2132 : v2129.toInt = ra M2105 o0 8 ((880 + ra M0 o0 6 44).toNat) := by rw [e2130, h2131]
              have : v2129.toInt = _ := Eq.trans z2132 z2124
              obtain ⟨_, b2139, -⟩ := I2106.1 _ _ t2091
              have : (1 : Int32).toInt = 1 := by decide
              refine mv_callV (kc' := 0) (ks' := 0) (As := [.int 1, .int v2129]) (st9 := [.int v2129, .int 1, .ref o0, .int v2056, .ref a2128]) d_TrustDeskModel_readClause_161 lV_TrustDeskModel_317 b2139 rfl (tc_TrustDeskModel_number_x (d := (d + 23)) (x9 := x9) (o0 := o0) (x1 := 1) (x2 := v2129) t2091 R2108 E2122.1 (by have := R2108.1 15 _ _ rfl; have := R2108.1 16 _ _ rfl; have := R2108.1 19 _ _ rfl; have := E2122.f yS; omega) I2106.start) rfl (Nat.le_of_ble_eq_true rfl) (Nat.le_of_ble_eq_true rfl) (Nat.le_of_ble_eq_true rfl) (hst := rfl) (fun b2133r M2134 n2135 b2133 => ?_)
              obtain ⟨T2136, J2137, v2140, rfl, R2141, f2142, f2143⟩ := b2133
              have I2138 := I2106.call J2137 (tm_sub (by decide)) (Or.inl rfl)
              have t2144 := J2137.up t2091
              have t2145 := J2137.up t_a2128
              have z2146 := (rv_c I2106 J2137 (I2106.up h_o0) (k := 22) rfl).trans z2116
              have z2147 := (rv_c I2106 J2137 (I2106.up h_o0) (k := 24) rfl).trans z2117
              have z2148 := (ra_call I2106 J2137 (I2106.up h_o0) (k := 5) rfl rfl rfl 44).trans z2118
              have z2149 := (ra_call I2106 J2137 (I2106.up h_o0) (k := 6) rfl rfl rfl 44).trans z2119
              have z2150 := (ra_call I2106 J2137 (I2106.up h_o0) (k := 7) rfl rfl rfl ((880 + ra M0 o0 6 44).toNat)).trans z2120
              have z2151 := (ra_call I2106 J2137 (I2106.up h_o0) (k := 10) rfl rfl rfl ((880 + ra M0 o0 6 44).toNat)).trans z2121
              have z2152 := (ra_call I2106 J2137 (I2106.up h_o0) (k := 8) rfl rfl rfl ((880 + ra M0 o0 6 44).toNat)).trans z2124
              have E2153 : rE M0 M2134 o0 0 3 := E2122.trans f2142 (by decide) (yR.2 5 _ _ rfl 44).1 (by decide) (by decide)
              have := f2142.w
              have := f2142.w2
              have K2154 : rK M0 M2134 o0 ((880 + ra M0 o0 6 44).toNat) := K2125.same (sA_c I2106 J2137 (I2106.up h_o0) (by decide))
              have K2155 : nN M2134 o0 := K2126.same (sA_c I2106 J2137 (I2106.up h_o0) (by decide)) (sF_c I2106 J2137 (I2106.up h_o0) (by decide))
              clear z2116 z2117 z2118 z2119 z2120 z2121 z2124
              have q2156 := J2137.keep t2091 (by decide) (K2107 _ 13 6 _ q2102)
              have t2157 := J2137.up t2103
              have q2158 := J2137.keep t2091 (by decide) (K2107 _ 13 8 _ q2104)
              have t2159 := J2137.up t2092
              have q2160 := J2137.keep t2091 (by decide) q2127
              refine tr_iastR (k := 9) I2138 R2141 (I2138.up h_o0) q2160 t2145 (by decide) (by decide) (fun lo hi h => by cases h) (Or.inl (by decide)) d_TrustDeskModel_readClause_164 (vp_in_iff.mpr (by have := R2141.1 15 _ _ rfl; have := R2141.1 16 _ _ rfl; have := R2141.1 19 _ _ rfl; have := E2153.f yS; omega)) (fun M2161 I2162 K2163 R2164 E2165 A2166 V2167 => ?_)
              have z2168 := (V2167 15)
              have z2169 := (V2167 16)
              have z2170 := (V2167 17)
              have z2171 := (V2167 19)
              have z2172 := (V2167 22).trans z2146
              have z2173 := (V2167 24).trans z2147
              have z2174 := (A2166 5 (by decide) rfl 44).trans z2148
              have z2175 := (A2166 6 (by decide) rfl 44).trans z2149
              have z2176 := (A2166 7 (by decide) rfl ((880 + ra M0 o0 6 44).toNat)).trans z2150
              have z2177 := (A2166 10 (by decide) rfl ((880 + ra M0 o0 6 44).toNat)).trans z2151
              have z2178 := (A2166 8 (by decide) rfl ((880 + ra M0 o0 6 44).toNat)).trans z2152
              have E2179 : rE M0 M2161 o0 0 3 := E2153.same (fun k _ _ => V2167 k) (fun k h1 h2 => A2166 k (by omega) (by rcases (show k = 4 ∨ k = 5 by omega) with rfl | rfl <;> rfl))
              have K2180 : rK M0 M2161 o0 ((880 + ra M0 o0 6 44).toNat) := K2154.same (sA_a A2166 (by decide))
              have K2181 : nN M2161 o0 := K2155.same (sA_a A2166 (by decide)) (sF_a V2167)
              clear z2146 z2147 z2148 z2149 z2150 z2151 z2152
              refine mv_aload_n d_TrustDeskModel_readClause_165 rfl rfl ?_
              refine mv_bipush (v := 59) d_TrustDeskModel_readClause_166 (by decide) ?_
              obtain ⟨_, b2188, -⟩ := I2162.1 _ _ t2144
              have : (59 : Int32).toInt = 59 := by decide
              refine mv_callV (kc' := 0) (ks' := 0) (As := [.int 59]) (st9 := [.int 59, .ref o0]) d_TrustDeskModel_readClause_168 lV_TrustDeskModel_291 b2188 rfl (tc_TrustDeskModel_wantSign_x (d := (d + 23)) (x9 := x9) (o0 := o0) (x1 := 59) t2144 R2164 E2179.1 (by have := R2164.1 15 _ _ rfl; have := R2164.1 16 _ _ rfl; have := R2164.1 19 _ _ rfl; have := E2179.f yS; omega) I2162.start) rfl (Nat.le_of_ble_eq_true rfl) (Nat.le_of_ble_eq_true rfl) (Nat.le_of_ble_eq_true rfl) (hst := rfl) (fun b2182r M2183 n2184 b2182 => ?_)
              obtain ⟨T2185, J2186, rfl, R2189, f2190⟩ := b2182
              have I2187 := I2162.call J2186 (tm_sub (by decide)) (Or.inl rfl)
              have t2191 := J2186.up t2144
              have z2192 := (rv_c I2162 J2186 (I2162.up h_o0) (k := 22) rfl).trans z2172
              have z2193 := (rv_c I2162 J2186 (I2162.up h_o0) (k := 24) rfl).trans z2173
              have z2194 := (ra_call I2162 J2186 (I2162.up h_o0) (k := 5) rfl rfl rfl 44).trans z2174
              have z2195 := (ra_call I2162 J2186 (I2162.up h_o0) (k := 6) rfl rfl rfl 44).trans z2175
              have z2196 := (ra_call I2162 J2186 (I2162.up h_o0) (k := 7) rfl rfl rfl ((880 + ra M0 o0 6 44).toNat)).trans z2176
              have z2197 := (ra_call I2162 J2186 (I2162.up h_o0) (k := 10) rfl rfl rfl ((880 + ra M0 o0 6 44).toNat)).trans z2177
              have z2198 := (ra_call I2162 J2186 (I2162.up h_o0) (k := 8) rfl rfl rfl ((880 + ra M0 o0 6 44).toNat)).trans z2178
              have E2199 : rE M0 M2183 o0 0 4 := E2179.trans f2190 (by decide) (yR.2 5 _ _ rfl 44).1 (by decide) (by decide)
              have := f2190.w
              have := f2190.w2
              have K2200 : rK M0 M2183 o0 ((880 + ra M0 o0 6 44).toNat) := K2180.same (sA_c I2162 J2186 (I2162.up h_o0) (by decide))
              have K2201 : nN M2183 o0 := K2181.same (sA_c I2162 J2186 (I2162.up h_o0) (by decide)) (sF_c I2162 J2186 (I2162.up h_o0) (by decide))
              clear z2172 z2173 z2174 z2175 z2176 z2177 z2178
              have q2202 := J2186.keep t2144 (by decide) (K2163 _ 13 6 _ q2156)
              have t2203 := J2186.up t2157
              have q2204 := J2186.keep t2144 (by decide) (K2163 _ 13 8 _ q2158)
              have t2205 := J2186.up t2159
              have q2206 := J2186.keep t2144 (by decide) (K2163 _ 13 9 _ q2160)
              have t2207 := J2186.up t2145
              refine mv_aload_n d_TrustDeskModel_readClause_171 rfl rfl ?_
              obtain ⟨a2209, q2208, t_a2209⟩ := tm_atR I2187 t2191 (k := 12) rfl
              refine tr_getK q2208 d_TrustDeskModel_readClause_172 f_TrustDeskModel_41_13 ?_
              refine mv_iload_n d_TrustDeskModel_readClause_175 rfl rfl ?_
              refine mv_aload_n d_TrustDeskModel_readClause_176 rfl rfl ?_
              obtain ⟨a2211, q2210, t_a2211⟩ := tm_atR I2187 t2191 (k := 5) rfl
              refine tr_getK q2210 d_TrustDeskModel_readClause_177 f_TrustDeskModel_20_13 ?_
              refine mv_bipush (v := 44) d_TrustDeskModel_readClause_180 (by decide) ?_
              refine tr_ialdR (o := o0) (k := 5) I2187 q2210 t_a2211 (by decide) d_TrustDeskModel_readClause_182 (by unfold vp_in; decide) (fun v2212 e2213 => ?_)
              have := R2189.a (k := 5) rfl (44 : Int32).toNatClampNeg
              have : v2212.toInt = ra M2183 o0 5 44 := e2213
              have : v2212.toInt = _ := Eq.trans e2213 z2194
              refine tr_iastR (k := 12) I2187 R2189 (I2187.up h_o0) q2208 t_a2209 (by decide) (by decide) (fun lo hi h => by cases h; have := R2189.1 15 _ _ rfl; have := R2189.1 16 _ _ rfl; have := R2189.1 19 _ _ rfl; have := E2199.f yS; exact ⟨by show (0 : Int) ≤ v2212.toInt; omega, by show v2212.toInt ≤ (400 : Int); omega⟩) (Or.inl (by decide)) d_TrustDeskModel_readClause_183 (vp_in_iff.mpr (by have := R2189.1 15 _ _ rfl; have := R2189.1 16 _ _ rfl; have := R2189.1 19 _ _ rfl; have := E2199.f yS; omega)) (fun M2214 I2215 K2216 R2217 E2218 A2219 V2220 => ?_)
              have z2221 := (V2220 15)
              have z2222 := (V2220 16)
              have z2223 := (V2220 17)
              have z2224 := (V2220 19)
              have z2225 := (V2220 22).trans z2192
              have z2226 := (V2220 24).trans z2193
              have z2227 := (A2219 5 (by decide) rfl 44).trans z2194
              have z2228 := (A2219 6 (by decide) rfl 44).trans z2195
              have z2229 := (A2219 7 (by decide) rfl ((880 + ra M0 o0 6 44).toNat)).trans z2196
              have z2230 := (A2219 10 (by decide) rfl ((880 + ra M0 o0 6 44).toNat)).trans z2197
              have z2231 := (A2219 8 (by decide) rfl ((880 + ra M0 o0 6 44).toNat)).trans z2198
              have E2232 : rE M0 M2214 o0 0 4 := E2199.same (fun k _ _ => V2220 k) (fun k h1 h2 => A2219 k (by omega) (by rcases (show k = 4 ∨ k = 5 by omega) with rfl | rfl <;> rfl))
              have h2233 : (880 + ra M0 o0 6 44).toNat = v2056.toNatClampNeg := by have := mz_nat9 (i := v2056) (by have := R2189.1 15 _ _ rfl; have := R2189.1 16 _ _ rfl; have := R2189.1 19 _ _ rfl; have := E2199.f yS; omega); have := R2189.1 15 _ _ rfl; have := R2189.1 16 _ _ rfl; have := R2189.1 19 _ _ rfl; have := E2199.f yS; omega
              have z2234 : ra M2214 o0 12 ((880 + ra M0 o0 6 44).toNat) = v2212.toInt := (E2218 _).trans (if_pos h2233)
              have K2235 : rK M0 M2214 o0 ((880 + ra M0 o0 6 44).toNat) := K2200.st A2219 E2218 (by have := mz_nat9 (i := v2056) (by have := R2189.1 15 _ _ rfl; have := R2189.1 16 _ _ rfl; have := R2189.1 19 _ _ rfl; have := E2199.f yS; omega); have := R2189.1 15 _ _ rfl; have := R2189.1 16 _ _ rfl; have := R2189.1 19 _ _ rfl; have := E2199.f yS; omega)
              have K2236 : nN M2214 o0 := K2201.same (sA_a A2219 (by decide)) (sF_a V2220)
              clear z2192 z2193 z2194 z2195 z2196 z2197 z2198
              exact mv_vret d_TrustDeskModel_readClause_184 rfl ⟨_, I2215, rfl, R2217, (rW.of E2232.1 (fun w9 => (by have := R2217.1 15 _ _ rfl; have := R2217.1 16 _ _ rfl; have := R2217.1 19 _ _ rfl; have := E2232.f yS; omega)) (fun w9 => rG.step yG yR E2232 w9 K2235 (by have := yR.2 6 _ _ rfl 44; omega) (by have := R2217.1 15 _ _ rfl; have := R2217.1 16 _ _ rfl; have := R2217.1 19 _ _ rfl; have := E2232.f yS; omega) (by have := R2217.1 15 _ _ rfl; have := R2217.1 16 _ _ rfl; have := R2217.1 19 _ _ rfl; have := E2232.f yS; omega) (fun h9 => by exfalso; have := R2217.1 15 _ _ rfl; have := R2217.1 16 _ _ rfl; have := R2217.1 19 _ _ rfl; have := E2232.f yS; omega) (fun h9 => (by have := R2217.1 15 _ _ rfl; have := R2217.1 16 _ _ rfl; have := R2217.1 19 _ _ rfl; have := E2232.f yS; omega)) (by have := R2217.1 15 _ _ rfl; have := R2217.1 16 _ _ rfl; have := R2217.1 19 _ _ rfl; have := E2232.f yS; omega) K2236)), (rO.of E2232 K2235 (by have := yR.2 6 _ _ rfl 44; omega)), (by have := R2217.1 15 _ _ rfl; have := R2217.1 16 _ _ rfl; have := R2217.1 19 _ _ rfl; have := E2232.f yS; omega), (by have := R2217.1 15 _ _ rfl; have := R2217.1 16 _ _ rfl; have := R2217.1 19 _ _ rfl; have := E2232.f yS; omega), (fun h9 _ => absurd h9 (f16 (by have := R2217.1 15 _ _ rfl; have := R2217.1 16 _ _ rfl; have := R2217.1 19 _ _ rfl; have := E2232.f yS; omega)))⟩
            · refine mv_bipush (v := 7) d_TrustDeskModel_readClause_100 (by decide) ?_
              refine mv_goto (tgt := 107) d_TrustDeskModel_readClause_102 (by decide) ?_
              obtain ⟨_, b2243, -⟩ := I2025.1 _ _ t2032
              have : (7 : Int32).toInt = 7 := by decide
              refine mv_callV (kc' := 0) (ks' := 0) (As := [.int 7]) (st9 := [.int 7, .ref o0]) d_TrustDeskModel_readClause_107 lV_TrustDeskModel_342 b2243 rfl (tc_TrustDeskModel_begin_x (d := (d + 23)) (x9 := x9) (o0 := o0) (x1 := 7) t2032 R2030 E2041.1 (by have := R2030.1 15 _ _ rfl; have := R2030.1 16 _ _ rfl; have := R2030.1 19 _ _ rfl; have := E2041.f yS; omega) (by have := R2030.1 15 _ _ rfl; have := R2030.1 16 _ _ rfl; have := R2030.1 19 _ _ rfl; have := E2041.f yS; omega) (by have := R2030.1 15 _ _ rfl; have := R2030.1 16 _ _ rfl; have := R2030.1 19 _ _ rfl; have := E2041.f yS; omega) (by have := R2030.1 15 _ _ rfl; have := R2030.1 16 _ _ rfl; have := R2030.1 19 _ _ rfl; have := E2041.f yS; omega) I2025.start) rfl (Nat.le_of_ble_eq_true rfl) (Nat.le_of_ble_eq_true rfl) (Nat.le_of_ble_eq_true rfl) (hst := rfl) (fun b2237r M2238 n2239 b2237 => ?_)
              obtain ⟨T2240, J2241, v2244, rfl, R2245, f2246, f2247, f2248, f2249, f2250, f2251⟩ := b2237
              have I2242 := I2025.call J2241 (tm_sub (by decide)) (Or.inl rfl)
              have t2252 := J2241.up t2032
              have z2253 := (rv_c I2025 J2241 (I2025.up h_o0) (k := 19) rfl).trans z2036
              have z2254 := (rv_c I2025 J2241 (I2025.up h_o0) (k := 22) rfl).trans z2037
              have z2255 := (rv_c I2025 J2241 (I2025.up h_o0) (k := 24) rfl).trans z2038
              have z2256 := (ra_call I2025 J2241 (I2025.up h_o0) (k := 5) rfl rfl rfl 44).trans z2039
              have E2257 : rE M0 M2238 o0 0 1 := E2041.trans f2246 (by decide) (yR.2 5 _ _ rfl 44).1 (by decide) (by decide)
              have := f2246.w
              have := f2246.w2
              have h2258 : (880 + ra M2021 o0 6 44).toNat = (880 + ra M0 o0 6 44).toNat := by omega
              rw [h2258] at f2249 f2250 f2251
              have K2259 : rK M0 M2238 o0 ((880 + ra M0 o0 6 44).toNat) := K2042.trans f2251
              have K2260 : nN M2238 o0 := K2043.same (sA_c I2025 J2241 (I2025.up h_o0) (by decide)) (sF_c I2025 J2241 (I2025.up h_o0) (by decide))
              clear z2036 z2037 z2038
              have q2261 := J2241.keep t2032 (by decide) q2044
              have t2262 := J2241.up t2045
              have q2263 := J2241.keep t2032 (by decide) q2046
              refine mv_istore_n (lv' := [(3, .int v2244), (2, .int v2027), (1, .int v10), (0, .ref o0)]) d_TrustDeskModel_readClause_110 rfl (by decide) rfl ?_
              refine mv_iload_n d_TrustDeskModel_readClause_111 rfl rfl ?_
              have := mz_hi v10
              refine mv_if_eqZ (tgt := 123) (a := v10.toInt) d_TrustDeskModel_readClause_112 (by decide) rfl (fun b2264 => ?_) (fun b2264 => absurd b2264 (by omega))
              refine mv_iload_n d_TrustDeskModel_readClause_123 rfl rfl ?_
              have := mz_hi v2027
              refine mv_if_eqZ (tgt := 135) (a := v2027.toInt) d_TrustDeskModel_readClause_124 (by decide) rfl (fun b2265 => ?_) (fun b2265 => ?_)
              · refine mv_aload_n d_TrustDeskModel_readClause_135 rfl rfl ?_
                obtain ⟨a2267, q2266, t_a2267⟩ := tm_atR I2242 t2252 (k := 8) rfl
                refine tr_getK q2266 d_TrustDeskModel_readClause_136 f_TrustDeskModel_29_13 ?_
                refine mv_iload_n d_TrustDeskModel_readClause_139 rfl rfl ?_
                refine mv_aload_n d_TrustDeskModel_readClause_140 rfl rfl ?_
                refine mv_iconst (v := 1) d_TrustDeskModel_readClause_141 (by decide) ?_
                refine mv_bipush (v := 7) d_TrustDeskModel_readClause_142 (by decide) ?_
                obtain ⟨_, b2274, -⟩ := I2242.1 _ _ t2252
                have : (1 : Int32).toInt = 1 := by decide
                have : (7 : Int32).toInt = 7 := by decide
                refine mv_callV (kc' := 0) (ks' := 0) (As := [.int 1, .int 7]) (st9 := [.int 7, .int 1, .ref o0, .int v2244, .ref a2267]) d_TrustDeskModel_readClause_144 lV_TrustDeskModel_317 b2274 rfl (tc_TrustDeskModel_number_x (d := (d + 23)) (x9 := x9) (o0 := o0) (x1 := 1) (x2 := 7) t2252 R2245 E2257.1 (by have := R2245.1 15 _ _ rfl; have := R2245.1 16 _ _ rfl; have := R2245.1 19 _ _ rfl; have := E2257.f yS; omega) I2242.start) rfl (Nat.le_of_ble_eq_true rfl) (Nat.le_of_ble_eq_true rfl) (Nat.le_of_ble_eq_true rfl) (hst := rfl) (fun b2268r M2269 n2270 b2268 => ?_)
                obtain ⟨T2271, J2272, v2275, rfl, R2276, f2277, f2278⟩ := b2268
                have I2273 := I2242.call J2272 (tm_sub (by decide)) (Or.inl rfl)
                have t2279 := J2272.up t2252
                have t2280 := J2272.up t_a2267
                have z2281 := (rv_c I2242 J2272 (I2242.up h_o0) (k := 22) rfl).trans z2254
                have z2282 := (rv_c I2242 J2272 (I2242.up h_o0) (k := 24) rfl).trans z2255
                have z2283 := (ra_call I2242 J2272 (I2242.up h_o0) (k := 5) rfl rfl rfl 44).trans z2256
                have z2284 := (ra_call I2242 J2272 (I2242.up h_o0) (k := 6) rfl rfl rfl 44)
                have z2285 := (ra_call I2242 J2272 (I2242.up h_o0) (k := 7) rfl rfl rfl ((880 + ra M0 o0 6 44).toNat))
                have z2286 := (ra_call I2242 J2272 (I2242.up h_o0) (k := 10) rfl rfl rfl ((880 + ra M0 o0 6 44).toNat))
                have E2287 : rE M0 M2269 o0 0 2 := E2257.trans f2277 (by decide) (yR.2 5 _ _ rfl 44).1 (by decide) (by decide)
                have := f2277.w
                have := f2277.w2
                have K2288 : rK M0 M2269 o0 ((880 + ra M0 o0 6 44).toNat) := K2259.same (sA_c I2242 J2272 (I2242.up h_o0) (by decide))
                have K2289 : nN M2269 o0 := K2260.same (sA_c I2242 J2272 (I2242.up h_o0) (by decide)) (sF_c I2242 J2272 (I2242.up h_o0) (by decide))
                clear z2254 z2255 z2256
                have q2290 := J2272.keep t2252 (by decide) q2261
                have t2291 := J2272.up t2262
                have q2292 := J2272.keep t2252 (by decide) q2266
                refine tr_iastR (k := 8) I2273 R2276 (I2273.up h_o0) q2292 t2280 (by decide) (by decide) (fun lo hi h => by cases h; have := R2276.1 15 _ _ rfl; have := R2276.1 16 _ _ rfl; have := R2276.1 19 _ _ rfl; have := E2287.f yS; exact ⟨by show ((-1) : Int) ≤ v2275.toInt; omega, by show v2275.toInt ≤ (720 : Int); omega⟩) (Or.inl (by decide)) d_TrustDeskModel_readClause_147 (vp_in_iff.mpr (by have := R2276.1 15 _ _ rfl; have := R2276.1 16 _ _ rfl; have := R2276.1 19 _ _ rfl; have := E2287.f yS; omega)) (fun M2293 I2294 K2295 R2296 E2297 A2298 V2299 => ?_)
                have z2300 := (V2299 15)
                have z2301 := (V2299 16)
                have z2302 := (V2299 17)
                have z2303 := (V2299 19)
                have z2304 := (V2299 22).trans z2281
                have z2305 := (V2299 24).trans z2282
                have z2306 := (A2298 5 (by decide) rfl 44).trans z2283
                have z2307 := (A2298 6 (by decide) rfl 44).trans z2284
                have z2308 := (A2298 7 (by decide) rfl ((880 + ra M0 o0 6 44).toNat)).trans z2285
                have z2309 := (A2298 10 (by decide) rfl ((880 + ra M0 o0 6 44).toNat)).trans z2286
                have E2310 : rE M0 M2293 o0 0 2 := E2287.same (fun k _ _ => V2299 k) (fun k h1 h2 => A2298 k (by omega) (by rcases (show k = 4 ∨ k = 5 by omega) with rfl | rfl <;> rfl))
                have h2311 : (880 + ra M0 o0 6 44).toNat = v2244.toNatClampNeg := by have := mz_nat9 (i := v2244) (by have := R2276.1 15 _ _ rfl; have := R2276.1 16 _ _ rfl; have := R2276.1 19 _ _ rfl; have := E2287.f yS; omega); have := R2276.1 15 _ _ rfl; have := R2276.1 16 _ _ rfl; have := R2276.1 19 _ _ rfl; have := E2287.f yS; omega
                have z2312 : ra M2293 o0 8 ((880 + ra M0 o0 6 44).toNat) = v2275.toInt := (E2297 _).trans (if_pos h2311)
                have K2313 : rK M0 M2293 o0 ((880 + ra M0 o0 6 44).toNat) := K2288.st A2298 E2297 (by have := mz_nat9 (i := v2244) (by have := R2276.1 15 _ _ rfl; have := R2276.1 16 _ _ rfl; have := R2276.1 19 _ _ rfl; have := E2287.f yS; omega); have := R2276.1 15 _ _ rfl; have := R2276.1 16 _ _ rfl; have := R2276.1 19 _ _ rfl; have := E2287.f yS; omega)
                have K2314 : nN M2293 o0 := K2289.same (sA_a A2298 (by decide)) (sF_a V2299)
                clear z2281 z2282 z2283 z2284 z2285 z2286
                refine mv_aload_n d_TrustDeskModel_readClause_148 rfl rfl ?_
                obtain ⟨a2316, q2315, t_a2316⟩ := tm_atR I2294 t2279 (k := 9) rfl
                refine tr_getK q2315 d_TrustDeskModel_readClause_149 f_TrustDeskModel_32_13 ?_
                refine mv_iload_n d_TrustDeskModel_readClause_152 rfl rfl ?_
                refine mv_aload_n d_TrustDeskModel_readClause_153 rfl rfl ?_
                refine mv_iconst (v := 1) d_TrustDeskModel_readClause_154 (by decide) ?_
                refine mv_aload_n d_TrustDeskModel_readClause_155 rfl rfl ?_
                refine tr_getK (k := 8) (K2295 _ 13 8 _ q2292) d_TrustDeskModel_readClause_156 f_TrustDeskModel_29_13 ?_
                refine mv_iload_n d_TrustDeskModel_readClause_159 rfl rfl ?_
                refine tr_ialdR (o := o0) (k := 8) I2294 (K2295 _ 13 8 _ q2292) t2280 (by decide) d_TrustDeskModel_readClause_160 (vp_in_iff.mpr (by have := R2296.1 15 _ _ rfl; have := R2296.1 16 _ _ rfl; have := R2296.1 19 _ _ rfl; have := E2310.f yS; omega)) (fun v2317 e2318 => ?_)
                have := R2296.a (k := 8) rfl (v2244 : Int32).toNatClampNeg
                have h2319 : (880 + ra M0 o0 6 44).toNat = v2244.toNatClampNeg := by have := mz_nat9 (i := v2244) (by have := R2296.1 15 _ _ rfl; have := R2296.1 16 _ _ rfl; have := R2296.1 19 _ _ rfl; have := E2310.f yS; omega); have := R2296.1 15 _ _ rfl; have := R2296.1 16 _ _ rfl; have := R2296.1 19 _ _ rfl; have := E2310.f yS; omega
                have z2320 : v2317.toInt = ra M2293 o0 8 ((880 + ra M0 o0 6 44).toNat) := by rw [e2318, h2319]
                have : v2317.toInt = _ := Eq.trans z2320 z2312
                obtain ⟨_, b2327, -⟩ := I2294.1 _ _ t2279
                have : (1 : Int32).toInt = 1 := by decide
                refine mv_callV (kc' := 0) (ks' := 0) (As := [.int 1, .int v2317]) (st9 := [.int v2317, .int 1, .ref o0, .int v2244, .ref a2316]) d_TrustDeskModel_readClause_161 lV_TrustDeskModel_317 b2327 rfl (tc_TrustDeskModel_number_x (d := (d + 23)) (x9 := x9) (o0 := o0) (x1 := 1) (x2 := v2317) t2279 R2296 E2310.1 (by have := R2296.1 15 _ _ rfl; have := R2296.1 16 _ _ rfl; have := R2296.1 19 _ _ rfl; have := E2310.f yS; omega) I2294.start) rfl (Nat.le_of_ble_eq_true rfl) (Nat.le_of_ble_eq_true rfl) (Nat.le_of_ble_eq_true rfl) (hst := rfl) (fun b2321r M2322 n2323 b2321 => ?_)
                obtain ⟨T2324, J2325, v2328, rfl, R2329, f2330, f2331⟩ := b2321
                have I2326 := I2294.call J2325 (tm_sub (by decide)) (Or.inl rfl)
                have t2332 := J2325.up t2279
                have t2333 := J2325.up t_a2316
                have z2334 := (rv_c I2294 J2325 (I2294.up h_o0) (k := 22) rfl).trans z2304
                have z2335 := (rv_c I2294 J2325 (I2294.up h_o0) (k := 24) rfl).trans z2305
                have z2336 := (ra_call I2294 J2325 (I2294.up h_o0) (k := 5) rfl rfl rfl 44).trans z2306
                have z2337 := (ra_call I2294 J2325 (I2294.up h_o0) (k := 6) rfl rfl rfl 44).trans z2307
                have z2338 := (ra_call I2294 J2325 (I2294.up h_o0) (k := 7) rfl rfl rfl ((880 + ra M0 o0 6 44).toNat)).trans z2308
                have z2339 := (ra_call I2294 J2325 (I2294.up h_o0) (k := 10) rfl rfl rfl ((880 + ra M0 o0 6 44).toNat)).trans z2309
                have z2340 := (ra_call I2294 J2325 (I2294.up h_o0) (k := 8) rfl rfl rfl ((880 + ra M0 o0 6 44).toNat)).trans z2312
                have E2341 : rE M0 M2322 o0 0 3 := E2310.trans f2330 (by decide) (yR.2 5 _ _ rfl 44).1 (by decide) (by decide)
                have := f2330.w
                have := f2330.w2
                have K2342 : rK M0 M2322 o0 ((880 + ra M0 o0 6 44).toNat) := K2313.same (sA_c I2294 J2325 (I2294.up h_o0) (by decide))
                have K2343 : nN M2322 o0 := K2314.same (sA_c I2294 J2325 (I2294.up h_o0) (by decide)) (sF_c I2294 J2325 (I2294.up h_o0) (by decide))
                clear z2304 z2305 z2306 z2307 z2308 z2309 z2312
                have q2344 := J2325.keep t2279 (by decide) (K2295 _ 13 6 _ q2290)
                have t2345 := J2325.up t2291
                have q2346 := J2325.keep t2279 (by decide) (K2295 _ 13 8 _ q2292)
                have t2347 := J2325.up t2280
                have q2348 := J2325.keep t2279 (by decide) q2315
                refine tr_iastR (k := 9) I2326 R2329 (I2326.up h_o0) q2348 t2333 (by decide) (by decide) (fun lo hi h => by cases h) (Or.inl (by decide)) d_TrustDeskModel_readClause_164 (vp_in_iff.mpr (by have := R2329.1 15 _ _ rfl; have := R2329.1 16 _ _ rfl; have := R2329.1 19 _ _ rfl; have := E2341.f yS; omega)) (fun M2349 I2350 K2351 R2352 E2353 A2354 V2355 => ?_)
                have z2356 := (V2355 15)
                have z2357 := (V2355 16)
                have z2358 := (V2355 17)
                have z2359 := (V2355 19)
                have z2360 := (V2355 22).trans z2334
                have z2361 := (V2355 24).trans z2335
                have z2362 := (A2354 5 (by decide) rfl 44).trans z2336
                have z2363 := (A2354 6 (by decide) rfl 44).trans z2337
                have z2364 := (A2354 7 (by decide) rfl ((880 + ra M0 o0 6 44).toNat)).trans z2338
                have z2365 := (A2354 10 (by decide) rfl ((880 + ra M0 o0 6 44).toNat)).trans z2339
                have z2366 := (A2354 8 (by decide) rfl ((880 + ra M0 o0 6 44).toNat)).trans z2340
                have E2367 : rE M0 M2349 o0 0 3 := E2341.same (fun k _ _ => V2355 k) (fun k h1 h2 => A2354 k (by omega) (by rcases (show k = 4 ∨ k = 5 by omega) with rfl | rfl <;> rfl))
                have K2368 : rK M0 M2349 o0 ((880 + ra M0 o0 6 44).toNat) := K2342.same (sA_a A2354 (by decide))
                have K2369 : nN M2349 o0 := K2343.same (sA_a A2354 (by decide)) (sF_a V2355)
                clear z2334 z2335 z2336 z2337 z2338 z2339 z2340
                refine mv_aload_n d_TrustDeskModel_readClause_165 rfl rfl ?_
                refine mv_bipush (v := 59) d_TrustDeskModel_readClause_166 (by decide) ?_
                obtain ⟨_, b2376, -⟩ := I2350.1 _ _ t2332
                have : (59 : Int32).toInt = 59 := by decide
                refine mv_callV (kc' := 0) (ks' := 0) (As := [.int 59]) (st9 := [.int 59, .ref o0]) d_TrustDeskModel_readClause_168 lV_TrustDeskModel_291 b2376 rfl (tc_TrustDeskModel_wantSign_x (d := (d + 23)) (x9 := x9) (o0 := o0) (x1 := 59) t2332 R2352 E2367.1 (by have := R2352.1 15 _ _ rfl; have := R2352.1 16 _ _ rfl; have := R2352.1 19 _ _ rfl; have := E2367.f yS; omega) I2350.start) rfl (Nat.le_of_ble_eq_true rfl) (Nat.le_of_ble_eq_true rfl) (Nat.le_of_ble_eq_true rfl) (hst := rfl) (fun b2370r M2371 n2372 b2370 => ?_)
                obtain ⟨T2373, J2374, rfl, R2377, f2378⟩ := b2370
                have I2375 := I2350.call J2374 (tm_sub (by decide)) (Or.inl rfl)
                have t2379 := J2374.up t2332
                have z2380 := (rv_c I2350 J2374 (I2350.up h_o0) (k := 22) rfl).trans z2360
                have z2381 := (rv_c I2350 J2374 (I2350.up h_o0) (k := 24) rfl).trans z2361
                have z2382 := (ra_call I2350 J2374 (I2350.up h_o0) (k := 5) rfl rfl rfl 44).trans z2362
                have z2383 := (ra_call I2350 J2374 (I2350.up h_o0) (k := 6) rfl rfl rfl 44).trans z2363
                have z2384 := (ra_call I2350 J2374 (I2350.up h_o0) (k := 7) rfl rfl rfl ((880 + ra M0 o0 6 44).toNat)).trans z2364
                have z2385 := (ra_call I2350 J2374 (I2350.up h_o0) (k := 10) rfl rfl rfl ((880 + ra M0 o0 6 44).toNat)).trans z2365
                have z2386 := (ra_call I2350 J2374 (I2350.up h_o0) (k := 8) rfl rfl rfl ((880 + ra M0 o0 6 44).toNat)).trans z2366
                have E2387 : rE M0 M2371 o0 0 4 := E2367.trans f2378 (by decide) (yR.2 5 _ _ rfl 44).1 (by decide) (by decide)
                have := f2378.w
                have := f2378.w2
                have K2388 : rK M0 M2371 o0 ((880 + ra M0 o0 6 44).toNat) := K2368.same (sA_c I2350 J2374 (I2350.up h_o0) (by decide))
                have K2389 : nN M2371 o0 := K2369.same (sA_c I2350 J2374 (I2350.up h_o0) (by decide)) (sF_c I2350 J2374 (I2350.up h_o0) (by decide))
                clear z2360 z2361 z2362 z2363 z2364 z2365 z2366
                have q2390 := J2374.keep t2332 (by decide) (K2351 _ 13 6 _ q2344)
                have t2391 := J2374.up t2345
                have q2392 := J2374.keep t2332 (by decide) (K2351 _ 13 8 _ q2346)
                have t2393 := J2374.up t2347
                have q2394 := J2374.keep t2332 (by decide) (K2351 _ 13 9 _ q2348)
                have t2395 := J2374.up t2333
                refine mv_aload_n d_TrustDeskModel_readClause_171 rfl rfl ?_
                obtain ⟨a2397, q2396, t_a2397⟩ := tm_atR I2375 t2379 (k := 12) rfl
                refine tr_getK q2396 d_TrustDeskModel_readClause_172 f_TrustDeskModel_41_13 ?_
                refine mv_iload_n d_TrustDeskModel_readClause_175 rfl rfl ?_
                refine mv_aload_n d_TrustDeskModel_readClause_176 rfl rfl ?_
                obtain ⟨a2399, q2398, t_a2399⟩ := tm_atR I2375 t2379 (k := 5) rfl
                refine tr_getK q2398 d_TrustDeskModel_readClause_177 f_TrustDeskModel_20_13 ?_
                refine mv_bipush (v := 44) d_TrustDeskModel_readClause_180 (by decide) ?_
                refine tr_ialdR (o := o0) (k := 5) I2375 q2398 t_a2399 (by decide) d_TrustDeskModel_readClause_182 (by unfold vp_in; decide) (fun v2400 e2401 => ?_)
                have := R2377.a (k := 5) rfl (44 : Int32).toNatClampNeg
                have : v2400.toInt = ra M2371 o0 5 44 := e2401
                have : v2400.toInt = _ := Eq.trans e2401 z2382
                refine tr_iastR (k := 12) I2375 R2377 (I2375.up h_o0) q2396 t_a2397 (by decide) (by decide) (fun lo hi h => by cases h; have := R2377.1 15 _ _ rfl; have := R2377.1 16 _ _ rfl; have := R2377.1 19 _ _ rfl; have := E2387.f yS; exact ⟨by show (0 : Int) ≤ v2400.toInt; omega, by show v2400.toInt ≤ (400 : Int); omega⟩) (Or.inl (by decide)) d_TrustDeskModel_readClause_183 (vp_in_iff.mpr (by have := R2377.1 15 _ _ rfl; have := R2377.1 16 _ _ rfl; have := R2377.1 19 _ _ rfl; have := E2387.f yS; omega)) (fun M2402 I2403 K2404 R2405 E2406 A2407 V2408 => ?_)
                have z2409 := (V2408 15)
                have z2410 := (V2408 16)
                have z2411 := (V2408 17)
                have z2412 := (V2408 19)
                have z2413 := (V2408 22).trans z2380
                have z2414 := (V2408 24).trans z2381
                have z2415 := (A2407 5 (by decide) rfl 44).trans z2382
                have z2416 := (A2407 6 (by decide) rfl 44).trans z2383
                have z2417 := (A2407 7 (by decide) rfl ((880 + ra M0 o0 6 44).toNat)).trans z2384
                have z2418 := (A2407 10 (by decide) rfl ((880 + ra M0 o0 6 44).toNat)).trans z2385
                have z2419 := (A2407 8 (by decide) rfl ((880 + ra M0 o0 6 44).toNat)).trans z2386
                have E2420 : rE M0 M2402 o0 0 4 := E2387.same (fun k _ _ => V2408 k) (fun k h1 h2 => A2407 k (by omega) (by rcases (show k = 4 ∨ k = 5 by omega) with rfl | rfl <;> rfl))
                have h2421 : (880 + ra M0 o0 6 44).toNat = v2244.toNatClampNeg := by have := mz_nat9 (i := v2244) (by have := R2377.1 15 _ _ rfl; have := R2377.1 16 _ _ rfl; have := R2377.1 19 _ _ rfl; have := E2387.f yS; omega); have := R2377.1 15 _ _ rfl; have := R2377.1 16 _ _ rfl; have := R2377.1 19 _ _ rfl; have := E2387.f yS; omega
                have z2422 : ra M2402 o0 12 ((880 + ra M0 o0 6 44).toNat) = v2400.toInt := (E2406 _).trans (if_pos h2421)
                have K2423 : rK M0 M2402 o0 ((880 + ra M0 o0 6 44).toNat) := K2388.st A2407 E2406 (by have := mz_nat9 (i := v2244) (by have := R2377.1 15 _ _ rfl; have := R2377.1 16 _ _ rfl; have := R2377.1 19 _ _ rfl; have := E2387.f yS; omega); have := R2377.1 15 _ _ rfl; have := R2377.1 16 _ _ rfl; have := R2377.1 19 _ _ rfl; have := E2387.f yS; omega)
                have K2424 : nN M2402 o0 := K2389.same (sA_a A2407 (by decide)) (sF_a V2408)
                clear z2380 z2381 z2382 z2383 z2384 z2385 z2386
                exact mv_vret d_TrustDeskModel_readClause_184 rfl ⟨_, I2403, rfl, R2405, (rW.of E2420.1 (fun w9 => (by have := R2405.1 15 _ _ rfl; have := R2405.1 16 _ _ rfl; have := R2405.1 19 _ _ rfl; have := E2420.f yS; omega)) (fun w9 => rG.step yG yR E2420 w9 K2423 (by have := yR.2 6 _ _ rfl 44; omega) (by have := R2405.1 15 _ _ rfl; have := R2405.1 16 _ _ rfl; have := R2405.1 19 _ _ rfl; have := E2420.f yS; omega) (by have := R2405.1 15 _ _ rfl; have := R2405.1 16 _ _ rfl; have := R2405.1 19 _ _ rfl; have := E2420.f yS; omega) (fun h9 => by exfalso; have := R2405.1 15 _ _ rfl; have := R2405.1 16 _ _ rfl; have := R2405.1 19 _ _ rfl; have := E2420.f yS; omega) (fun h9 => (by have := R2405.1 15 _ _ rfl; have := R2405.1 16 _ _ rfl; have := R2405.1 19 _ _ rfl; have := E2420.f yS; omega)) (by have := R2405.1 15 _ _ rfl; have := R2405.1 16 _ _ rfl; have := R2405.1 19 _ _ rfl; have := E2420.f yS; omega) K2424)), (rO.of E2420 K2423 (by have := yR.2 6 _ _ rfl 44; omega)), (by have := R2405.1 15 _ _ rfl; have := R2405.1 16 _ _ rfl; have := R2405.1 19 _ _ rfl; have := E2420.f yS; omega), (by have := R2405.1 15 _ _ rfl; have := R2405.1 16 _ _ rfl; have := R2405.1 19 _ _ rfl; have := E2420.f yS; omega), (fun h9 _ => absurd h9 (f16 (by have := R2405.1 15 _ _ rfl; have := R2405.1 16 _ _ rfl; have := R2405.1 19 _ _ rfl; have := E2420.f yS; omega)))⟩
              · refine mv_aload_n d_TrustDeskModel_readClause_127 rfl rfl ?_
                refine mv_iload_n d_TrustDeskModel_readClause_128 rfl rfl ?_
                obtain ⟨_, b2431, -⟩ := I2242.1 _ _ t2252
                refine mv_callV (kc' := 0) (ks' := 0) (As := [.int v2244]) (st9 := [.int v2244, .ref o0]) d_TrustDeskModel_readClause_129 lV_TrustDeskModel_348 b2431 rfl (tc_TrustDeskModel_readMarks_x (d := (d + 22)) (x9 := x9) (o0 := o0) (x1 := v2244) t2252 R2245 E2257.1 (by have := R2245.1 15 _ _ rfl; have := R2245.1 16 _ _ rfl; have := R2245.1 19 _ _ rfl; have := E2257.f yS; omega) (by have := R2245.1 15 _ _ rfl; have := R2245.1 16 _ _ rfl; have := R2245.1 19 _ _ rfl; have := E2257.f yS; omega) I2242.start) rfl (Nat.le_of_ble_eq_true rfl) (Nat.le_of_ble_eq_true rfl) (Nat.le_of_ble_eq_true rfl) (hst := rfl) (fun b2425r M2426 n2427 b2425 => ?_)
                obtain ⟨T2428, J2429, rfl, R2432, f2433, f2434, f2435⟩ := b2425
                have I2430 := I2242.call J2429 (tm_sub (by decide)) (Or.inl rfl)
                have t2436 := J2429.up t2252
                have z2437 := (rv_c I2242 J2429 (I2242.up h_o0) (k := 22) rfl).trans z2254
                have z2438 := (rv_c I2242 J2429 (I2242.up h_o0) (k := 24) rfl).trans z2255
                have z2439 := (ra_call I2242 J2429 (I2242.up h_o0) (k := 5) rfl rfl rfl 44).trans z2256
                have z2440 := (ra_call I2242 J2429 (I2242.up h_o0) (k := 6) rfl rfl rfl 44)
                have z2441 := (ra_call I2242 J2429 (I2242.up h_o0) (k := 7) rfl rfl rfl ((880 + ra M0 o0 6 44).toNat))
                have z2442 := (ra_call I2242 J2429 (I2242.up h_o0) (k := 10) rfl rfl rfl ((880 + ra M0 o0 6 44).toNat))
                have E2443 : rE M0 M2426 o0 0 1 := E2257.trans f2433 (by decide) (yR.2 5 _ _ rfl 44).1 (by decide) (by decide)
                have := f2433.w
                have := f2433.w2
                have h2444 : v2244.toNatClampNeg = (880 + ra M0 o0 6 44).toNat := by have := mz_nat9 (i := v2244) (by have := R2245.1 15 _ _ rfl; have := R2245.1 16 _ _ rfl; have := R2245.1 19 _ _ rfl; have := E2257.f yS; omega); have := R2245.1 15 _ _ rfl; have := R2245.1 16 _ _ rfl; have := R2245.1 19 _ _ rfl; have := E2257.f yS; omega
                rw [h2444] at f2434 f2435
                have K2445 : rK M0 M2426 o0 ((880 + ra M0 o0 6 44).toNat) := K2259.one8 (sA_c I2242 J2429 (I2242.up h_o0) (by decide)) f2434
                have K2446 : nN M2426 o0 := K2260.same (sA_c I2242 J2429 (I2242.up h_o0) (by decide)) (sF_c I2242 J2429 (I2242.up h_o0) (by decide))
                clear z2254 z2255 z2256
                have q2447 := J2429.keep t2252 (by decide) q2261
                have t2448 := J2429.up t2262
                refine mv_goto (tgt := 165) d_TrustDeskModel_readClause_132 (by decide) ?_
                refine mv_aload_n d_TrustDeskModel_readClause_165 rfl rfl ?_
                refine mv_bipush (v := 59) d_TrustDeskModel_readClause_166 (by decide) ?_
                obtain ⟨_, b2455, -⟩ := I2430.1 _ _ t2436
                have : (59 : Int32).toInt = 59 := by decide
                refine mv_callV (kc' := 0) (ks' := 0) (As := [.int 59]) (st9 := [.int 59, .ref o0]) d_TrustDeskModel_readClause_168 lV_TrustDeskModel_291 b2455 rfl (tc_TrustDeskModel_wantSign_x (d := (d + 23)) (x9 := x9) (o0 := o0) (x1 := 59) t2436 R2432 E2443.1 (by have := R2432.1 15 _ _ rfl; have := R2432.1 16 _ _ rfl; have := R2432.1 19 _ _ rfl; have := E2443.f yS; omega) I2430.start) rfl (Nat.le_of_ble_eq_true rfl) (Nat.le_of_ble_eq_true rfl) (Nat.le_of_ble_eq_true rfl) (hst := rfl) (fun b2449r M2450 n2451 b2449 => ?_)
                obtain ⟨T2452, J2453, rfl, R2456, f2457⟩ := b2449
                have I2454 := I2430.call J2453 (tm_sub (by decide)) (Or.inl rfl)
                have t2458 := J2453.up t2436
                have z2459 := (rv_c I2430 J2453 (I2430.up h_o0) (k := 22) rfl).trans z2437
                have z2460 := (rv_c I2430 J2453 (I2430.up h_o0) (k := 24) rfl).trans z2438
                have z2461 := (ra_call I2430 J2453 (I2430.up h_o0) (k := 5) rfl rfl rfl 44).trans z2439
                have z2462 := (ra_call I2430 J2453 (I2430.up h_o0) (k := 6) rfl rfl rfl 44).trans z2440
                have z2463 := (ra_call I2430 J2453 (I2430.up h_o0) (k := 7) rfl rfl rfl ((880 + ra M0 o0 6 44).toNat)).trans z2441
                have z2464 := (ra_call I2430 J2453 (I2430.up h_o0) (k := 10) rfl rfl rfl ((880 + ra M0 o0 6 44).toNat)).trans z2442
                have z2465 := (ra_call I2430 J2453 (I2430.up h_o0) (k := 8) rfl rfl rfl ((880 + ra M0 o0 6 44).toNat))
                have E2466 : rE M0 M2450 o0 0 2 := E2443.trans f2457 (by decide) (yR.2 5 _ _ rfl 44).1 (by decide) (by decide)
                have := f2457.w
                have := f2457.w2
                have K2467 : rK M0 M2450 o0 ((880 + ra M0 o0 6 44).toNat) := K2445.same (sA_c I2430 J2453 (I2430.up h_o0) (by decide))
                have K2468 : nN M2450 o0 := K2446.same (sA_c I2430 J2453 (I2430.up h_o0) (by decide)) (sF_c I2430 J2453 (I2430.up h_o0) (by decide))
                clear z2437 z2438 z2439 z2440 z2441 z2442
                have q2469 := J2453.keep t2436 (by decide) q2447
                have t2470 := J2453.up t2448
                refine mv_aload_n d_TrustDeskModel_readClause_171 rfl rfl ?_
                obtain ⟨a2472, q2471, t_a2472⟩ := tm_atR I2454 t2458 (k := 12) rfl
                refine tr_getK q2471 d_TrustDeskModel_readClause_172 f_TrustDeskModel_41_13 ?_
                refine mv_iload_n d_TrustDeskModel_readClause_175 rfl rfl ?_
                refine mv_aload_n d_TrustDeskModel_readClause_176 rfl rfl ?_
                obtain ⟨a2474, q2473, t_a2474⟩ := tm_atR I2454 t2458 (k := 5) rfl
                refine tr_getK q2473 d_TrustDeskModel_readClause_177 f_TrustDeskModel_20_13 ?_
                refine mv_bipush (v := 44) d_TrustDeskModel_readClause_180 (by decide) ?_
                refine tr_ialdR (o := o0) (k := 5) I2454 q2473 t_a2474 (by decide) d_TrustDeskModel_readClause_182 (by unfold vp_in; decide) (fun v2475 e2476 => ?_)
                have := R2456.a (k := 5) rfl (44 : Int32).toNatClampNeg
                have : v2475.toInt = ra M2450 o0 5 44 := e2476
                have : v2475.toInt = _ := Eq.trans e2476 z2461
                refine tr_iastR (k := 12) I2454 R2456 (I2454.up h_o0) q2471 t_a2472 (by decide) (by decide) (fun lo hi h => by cases h; have := R2456.1 15 _ _ rfl; have := R2456.1 16 _ _ rfl; have := R2456.1 19 _ _ rfl; have := E2466.f yS; exact ⟨by show (0 : Int) ≤ v2475.toInt; omega, by show v2475.toInt ≤ (400 : Int); omega⟩) (Or.inl (by decide)) d_TrustDeskModel_readClause_183 (vp_in_iff.mpr (by have := R2456.1 15 _ _ rfl; have := R2456.1 16 _ _ rfl; have := R2456.1 19 _ _ rfl; have := E2466.f yS; omega)) (fun M2477 I2478 K2479 R2480 E2481 A2482 V2483 => ?_)
                have z2484 := (V2483 15)
                have z2485 := (V2483 16)
                have z2486 := (V2483 17)
                have z2487 := (V2483 19)
                have z2488 := (V2483 22).trans z2459
                have z2489 := (V2483 24).trans z2460
                have z2490 := (A2482 5 (by decide) rfl 44).trans z2461
                have z2491 := (A2482 6 (by decide) rfl 44).trans z2462
                have z2492 := (A2482 7 (by decide) rfl ((880 + ra M0 o0 6 44).toNat)).trans z2463
                have z2493 := (A2482 10 (by decide) rfl ((880 + ra M0 o0 6 44).toNat)).trans z2464
                have z2494 := (A2482 8 (by decide) rfl ((880 + ra M0 o0 6 44).toNat)).trans z2465
                have E2495 : rE M0 M2477 o0 0 2 := E2466.same (fun k _ _ => V2483 k) (fun k h1 h2 => A2482 k (by omega) (by rcases (show k = 4 ∨ k = 5 by omega) with rfl | rfl <;> rfl))
                have h2496 : (880 + ra M0 o0 6 44).toNat = v2244.toNatClampNeg := by have := mz_nat9 (i := v2244) (by have := R2456.1 15 _ _ rfl; have := R2456.1 16 _ _ rfl; have := R2456.1 19 _ _ rfl; have := E2466.f yS; omega); have := R2456.1 15 _ _ rfl; have := R2456.1 16 _ _ rfl; have := R2456.1 19 _ _ rfl; have := E2466.f yS; omega
                have z2497 : ra M2477 o0 12 ((880 + ra M0 o0 6 44).toNat) = v2475.toInt := (E2481 _).trans (if_pos h2496)
                have K2498 : rK M0 M2477 o0 ((880 + ra M0 o0 6 44).toNat) := K2467.st A2482 E2481 (by have := mz_nat9 (i := v2244) (by have := R2456.1 15 _ _ rfl; have := R2456.1 16 _ _ rfl; have := R2456.1 19 _ _ rfl; have := E2466.f yS; omega); have := R2456.1 15 _ _ rfl; have := R2456.1 16 _ _ rfl; have := R2456.1 19 _ _ rfl; have := E2466.f yS; omega)
                have K2499 : nN M2477 o0 := K2468.same (sA_a A2482 (by decide)) (sF_a V2483)
                clear z2459 z2460 z2461 z2462 z2463 z2464 z2465
                exact mv_vret d_TrustDeskModel_readClause_184 rfl ⟨_, I2478, rfl, R2480, (rW.of E2495.1 (fun w9 => (by have := R2480.1 15 _ _ rfl; have := R2480.1 16 _ _ rfl; have := R2480.1 19 _ _ rfl; have := E2495.f yS; omega)) (fun w9 => rG.step yG yR E2495 w9 K2498 (by have := yR.2 6 _ _ rfl 44; omega) (by have := R2480.1 15 _ _ rfl; have := R2480.1 16 _ _ rfl; have := R2480.1 19 _ _ rfl; have := E2495.f yS; omega) (by have := R2480.1 15 _ _ rfl; have := R2480.1 16 _ _ rfl; have := R2480.1 19 _ _ rfl; have := E2495.f yS; omega) (fun h9 => by exfalso; have := R2480.1 15 _ _ rfl; have := R2480.1 16 _ _ rfl; have := R2480.1 19 _ _ rfl; have := E2495.f yS; omega) (fun h9 => (by have := R2480.1 15 _ _ rfl; have := R2480.1 16 _ _ rfl; have := R2480.1 19 _ _ rfl; have := E2495.f yS; omega)) (by have := R2480.1 15 _ _ rfl; have := R2480.1 16 _ _ rfl; have := R2480.1 19 _ _ rfl; have := E2495.f yS; omega) K2499)), (rO.of E2495 K2498 (by have := yR.2 6 _ _ rfl 44; omega)), (by have := R2480.1 15 _ _ rfl; have := R2480.1 16 _ _ rfl; have := R2480.1 19 _ _ rfl; have := E2495.f yS; omega), (by have := R2480.1 15 _ _ rfl; have := R2480.1 16 _ _ rfl; have := R2480.1 19 _ _ rfl; have := E2495.f yS; omega), (fun h9 _ => absurd h9 (f16 (by have := R2480.1 15 _ _ rfl; have := R2480.1 16 _ _ rfl; have := R2480.1 19 _ _ rfl; have := E2495.f yS; omega)))⟩
      · refine mv_aload_n d_TrustDeskModel_readClause_32 rfl rfl ?_
        refine mv_iconst (v := 1) d_TrustDeskModel_readClause_33 (by decide) ?_
        obtain ⟨_, b2506, -⟩ := I1964.1 _ _ t1971
        have : (1 : Int32).toInt = 1 := by decide
        refine mv_callV (kc' := 0) (ks' := 0) (As := [.int 1]) (st9 := [.int 1, .ref o0]) d_TrustDeskModel_readClause_34 lV_TrustDeskModel_240 b2506 rfl (tc_TrustDeskModel_fails_x (d := (d + 25)) (x9 := x9) (o0 := o0) (x1 := 1) t1971 R1969 (by decide) I1964.start) rfl (Nat.le_of_ble_eq_true rfl) (Nat.le_of_ble_eq_true rfl) (Nat.le_of_ble_eq_true rfl) (hst := rfl) (fun b2500r M2501 n2502 b2500 => ?_)
        obtain ⟨T2503, J2504, rfl, R2507, f2508⟩ := b2500
        have I2505 := I1964.call J2504 (tm_sub (by decide)) (Or.inl rfl)
        have t2509 := J2504.up t1971
        have z2510 := (rv_c I1964 J2504 (I1964.up h_o0) (k := 15) rfl).trans z1972
        have z2511 := (rv_c I1964 J2504 (I1964.up h_o0) (k := 16) rfl).trans z1973
        have z2512 := (rv_c I1964 J2504 (I1964.up h_o0) (k := 17) rfl).trans z1974
        have z2513 := (rv_c I1964 J2504 (I1964.up h_o0) (k := 22) rfl).trans z1976
        have z2514 := (rv_c I1964 J2504 (I1964.up h_o0) (k := 24) rfl).trans z1977
        have z2515 := (ra_call I1964 J2504 (I1964.up h_o0) (k := 5) rfl rfl rfl 44).trans z1978
        have z2516 := (ra_call I1964 J2504 (I1964.up h_o0) (k := 6) rfl rfl rfl 44).trans z1979
        have E2517 : rE M0 M2501 o0 0 0 := E1980.fails (rE_hv I1964 J2504 (I1964.up h_o0) 15 18 (by decide)) (rE_ha I1964 J2504 (I1964.up h_o0) (by decide)) f2508 0 0
        have K2518 : rK M0 M2501 o0 ((880 + ra M0 o0 6 44).toNat) := K1981.same (sA_c I1964 J2504 (I1964.up h_o0) (by decide))
        have K2519 : nN M2501 o0 := K1982.same (sA_c I1964 J2504 (I1964.up h_o0) (by decide)) (sF_c I1964 J2504 (I1964.up h_o0) (by decide))
        clear z1972 z1973 z1974 z1976 z1977 z1978 z1979
        refine mv_goto (tgt := 70) d_TrustDeskModel_readClause_37 (by decide) ?_
        refine mv_aload_n d_TrustDeskModel_readClause_70 rfl rfl ?_
        obtain ⟨_, b2520, -⟩ := I2505.1 _ _ t2509
        refine mv_callV (kc1 := 0) (ks1 := 0) (kc' := 0) (ks' := 0) (As := []) (st9 := [.ref o0]) d_TrustDeskModel_readClause_71 lV_TrustDeskModel_230 b2520 rfl (mj_enter (by decide) (Nat.le_of_ble_eq_true rfl) ?_) rfl (Nat.le_of_ble_eq_true rfl) (Nat.le_of_ble_eq_true rfl) (Nat.le_of_ble_eq_true rfl) (hst := rfl) (fun _ _ _ h => h)
        refine mv_aload_n d_TrustDeskModel_isWell_0 rfl rfl ?_
        obtain ⟨v2522, q2521⟩ := tm_atI I2505 t2509 (k := 19) rfl
        refine tr_getK q2521 d_TrustDeskModel_isWell_1 f_TrustDeskModel_224_13 ?_
        have := R2507.f (k := 19) q2521 rfl
        have := tm_rv q2521
        refine mv_if_neZ (tgt := 11) (a := v2522.toInt) d_TrustDeskModel_isWell_4 (by decide) rfl (fun b2523 => ?_) (fun b2523 => ?_)
        · refine mv_iconst (v := 0) d_TrustDeskModel_isWell_11 (by decide) ?_
          refine mv_iret d_TrustDeskModel_isWell_12 rfl (by decide) ?_
          refine mv_if_ne_f (tgt := 78) d_TrustDeskModel_readClause_74 (by decide) (by decide) ?_
          exact mv_vret d_TrustDeskModel_readClause_77 rfl ⟨_, I2505, rfl, R2507, (rW.of E2517.1 (fun h9 => absurd h9 (by have := R2507.1 15 _ _ rfl; have := R2507.1 16 _ _ rfl; have := R2507.1 19 _ _ rfl; have := E2517.f yS; omega)) (fun h9 => absurd h9 (by have := R2507.1 15 _ _ rfl; have := R2507.1 16 _ _ rfl; have := R2507.1 19 _ _ rfl; have := E2517.f yS; omega))), (rO.of E2517 K2518 (by have := yR.2 6 _ _ rfl 44; omega)), (by have := R2507.1 15 _ _ rfl; have := R2507.1 16 _ _ rfl; have := R2507.1 19 _ _ rfl; have := E2517.f yS; omega), (by have := R2507.1 15 _ _ rfl; have := R2507.1 16 _ _ rfl; have := R2507.1 19 _ _ rfl; have := E2517.f yS; omega), (fun _ h9 => absurd h9 (by have := R2507.1 15 _ _ rfl; have := R2507.1 16 _ _ rfl; have := R2507.1 19 _ _ rfl; have := E2517.f yS; omega))⟩
        · exfalso
          have := R2507.1 15 _ _ rfl; have := R2507.1 16 _ _ rfl; have := R2507.1 19 _ _ rfl; have := E2517.f yS; omega
