abbrev kY_TrustDeskModel_readClause : mj_Y := (⟨"TrustDeskModel", "readClause", "()V"⟩, prog_14_method_38_code, 4, (Option.none : Option Jvm.ClassFile.FieldType))
theorem d_TrustDeskModel_readClause_0 : decode kY_TrustDeskModel_readClause.2.1 0 = .ok (.aload_n 0, 1) := by decide +kernel
theorem d_TrustDeskModel_readClause_1 : decode kY_TrustDeskModel_readClause.2.1 1 = .ok (.ldc_w 336, 3) := by decide +kernel
theorem d_TrustDeskModel_readClause_4 : decode kY_TrustDeskModel_readClause.2.1 4 = .ok (.invokevirtual 244, 3) := by decide +kernel
def w_TrustDeskModel_isWord_s1_42_x : List Nat := []
set_option maxHeartbeats 100000000 in theorem tc_TrustDeskModel_isWord_s1_42_x {g : mj_G} {l : Launch} {d : Nat} {T0 : tm_H} {M0 : mj_M} {n0 x9 : Nat} {o0 : Nat} (h_o0 : T0 o0 = some (0, 13, 0)) (yR : rI M0 o0) (I0 : tm_I tm_FT (tm_in w_TrustDeskModel_isWord_s1_42_x) x9 T0 M0 n0 T0 M0 n0) : mj_Met g l kY_TrustDeskModel_isWord (d + 4) [.ref o0, .ref 42] M0 n0 0 0 (tm_Q tm_FT (tm_in w_TrustDeskModel_isWord_s1_42_x) x9 T0 M0 n0 (fun r _ M => ∃ v : Int32, r = some (.int v) ∧ 0 ≤ v.toInt ∧ v.toInt ≤ 1 ∧ rI M o0 ∧ (v.toInt = 1 → rv M0 o0 17 = 3) ∧ (v.toInt = 1 → rwE M0 o0) ∧ (v.toInt = 0 → ¬ rwE M0 o0))) := by
  refine mj_enter (by decide) (Nat.le_of_ble_eq_true rfl) ?_
  refine mv_aload_n d_TrustDeskModel_isWord_0 rfl rfl ?_
  obtain ⟨v2, q1⟩ := tm_atI I0 h_o0 (k := 17) rfl
  refine tr_getK q1 d_TrustDeskModel_isWord_1 f_TrustDeskModel_198_13 ?_
  have := tm_rv q1
  refine mv_iconst (v := 3) d_TrustDeskModel_isWord_4 (by decide) ?_
  have := mz_hi v2
  refine mv_icmp_neZ (tgt := 24) (a := v2.toInt) (b := 3) d_TrustDeskModel_isWord_5 (by decide) rfl (by decide) (fun b3 => ?_) (fun b3 => ?_)
  · refine mv_iconst (v := 0) d_TrustDeskModel_isWord_24 (by decide) ?_
    exact mv_iret d_TrustDeskModel_isWord_25 rfl (by decide) ⟨_, I0, _, rfl, by decide, by decide, yR, (fun h => absurd h (by decide)), (fun h => absurd h (by decide)), (fun _ h => by obtain ⟨h1, h2, h3, h4, h5⟩ := h; have := yR.1 15 _ _ rfl; have := yR.1 16 _ _ rfl; have := yR.1 19 _ _ rfl; omega)⟩
  · refine mv_aload_n d_TrustDeskModel_isWord_8 rfl rfl ?_
    obtain ⟨v5, q4⟩ := tm_atI I0 h_o0 (k := 15) rfl
    refine tr_getK q4 d_TrustDeskModel_isWord_9 f_TrustDeskModel_192_13 ?_
    have := yR.f (k := 15) q4 rfl
    have := tm_rv q4
    refine mv_aload_n d_TrustDeskModel_isWord_12 rfl rfl ?_
    obtain ⟨v7, q6⟩ := tm_atI I0 h_o0 (k := 16) rfl
    refine tr_getK q6 d_TrustDeskModel_isWord_13 f_TrustDeskModel_195_13 ?_
    have := yR.f (k := 16) q6 rfl
    have := tm_rv q6
    refine mv_isub d_TrustDeskModel_isWord_16 ?_
    refine mv_aload_n d_TrustDeskModel_isWord_17 rfl rfl ?_
    refine mv_slenK (i := 32) (v := 3) d_TrustDeskModel_isWord_18 lV_TrustDeskModel_214 (by decide) rfl (by decide) (Nat.le_of_ble_eq_true rfl) ?_
    have b8 : (v5 - v7 : Int32).toInt = (v5.toInt - v7.toInt) := mz_sub2 rfl rfl (by have := yR.1 15 _ _ rfl; have := yR.1 16 _ _ rfl; have := yR.1 19 _ _ rfl; omega) (by have := yR.1 15 _ _ rfl; have := yR.1 16 _ _ rfl; have := yR.1 19 _ _ rfl; omega)
    have := mz_hi (v5 - v7)
    refine mv_icmp_eqZ (tgt := 26) (a := (v5 - v7).toInt) (b := 3) d_TrustDeskModel_isWord_21 (by decide) rfl (by decide) (fun b9 => ?_) (fun b9 => ?_)
    · refine mv_iconst (v := 0) d_TrustDeskModel_isWord_26 (by decide) ?_
      refine mv_istore_n (lv' := [(2, .int 0), (0, .ref o0), (1, .ref 42)]) d_TrustDeskModel_isWord_27 rfl (by decide) rfl ?_
      refine mv_iload_n d_TrustDeskModel_isWord_28 rfl rfl ?_
      refine mv_aload_n d_TrustDeskModel_isWord_29 rfl rfl ?_
      refine mv_slenK (i := 32) (v := 3) d_TrustDeskModel_isWord_30 lV_TrustDeskModel_214 (by decide) rfl (by decide) (Nat.le_of_ble_eq_true rfl) ?_
      refine mv_icmp_ge_f (tgt := 63) d_TrustDeskModel_isWord_33 (by decide) (by decide) ?_
      refine mv_aload_n d_TrustDeskModel_isWord_36 rfl rfl ?_
      obtain ⟨a11, q10, t_a11⟩ := tm_atR I0 h_o0 (k := 13) rfl
      refine tr_getK q10 d_TrustDeskModel_isWord_37 f_TrustDeskModel_44_13 ?_
      refine mv_aload_n d_TrustDeskModel_isWord_40 rfl rfl ?_
      refine tr_getK (k := 16) q6 d_TrustDeskModel_isWord_41 f_TrustDeskModel_195_13 ?_
      refine mv_iload_n d_TrustDeskModel_isWord_44 rfl rfl ?_
      refine mv_iadd d_TrustDeskModel_isWord_45 ?_
      have b12 : (v7 + 0 : Int32).toInt = (v7.toInt + 0) := mz_add2 rfl (by decide) (by have := yR.1 15 _ _ rfl; have := yR.1 16 _ _ rfl; have := yR.1 19 _ _ rfl; omega) (by have := yR.1 15 _ _ rfl; have := yR.1 16 _ _ rfl; have := yR.1 19 _ _ rfl; omega)
      refine tr_baldR (o := o0) (k := 13) I0 q10 t_a11 (by decide) d_TrustDeskModel_isWord_46 (vp_in_iff.mpr (by have := yR.1 15 _ _ rfl; have := yR.1 16 _ _ rfl; have := yR.1 19 _ _ rfl; omega)) (fun v13 e14 => ?_)
      have := yR.a (k := 13) rfl ((v7 + 0) : Int32).toNatClampNeg
      have h15 : (v7 + 0).toNatClampNeg = (rv M0 o0 16).toNat + 0 := by have := mz_nat9 (i := (v7 + 0)) (by have := yR.1 15 _ _ rfl; have := yR.1 16 _ _ rfl; have := yR.1 19 _ _ rfl; omega); have := yR.1 15 _ _ rfl; have := yR.1 16 _ _ rfl; have := yR.1 19 _ _ rfl; omega
      have : v13.toInt = ra M0 o0 13 ((rv M0 o0 16).toNat + 0) := by rw [e14, h15]
      refine mv_aload_n d_TrustDeskModel_isWord_47 rfl rfl ?_
      refine mv_iload_n d_TrustDeskModel_isWord_48 rfl rfl ?_
      refine mv_schC (i := 32) (v := 101) d_TrustDeskModel_isWord_49 lV_TrustDeskModel_220 (by decide) rfl (by decide) (by decide) (Nat.le_of_ble_eq_true rfl) (by decide) ?_
      have := mz_hi v13
      refine mv_icmp_eqZ (tgt := 57) (a := v13.toInt) (b := 101) d_TrustDeskModel_isWord_52 (by decide) rfl (by decide) (fun b16 => ?_) (fun b16 => ?_)
      · refine mv_iinc (v := 1) (lv' := [(2, .int 1), (0, .ref o0), (1, .ref 42)]) d_TrustDeskModel_isWord_57 rfl (by decide) (by decide) rfl ?_
        refine mv_goto (tgt := 28) d_TrustDeskModel_isWord_60 (by decide) ?_
        refine mv_iload_n d_TrustDeskModel_isWord_28 rfl rfl ?_
        refine mv_aload_n d_TrustDeskModel_isWord_29 rfl rfl ?_
        refine mv_slenK (i := 32) (v := 3) d_TrustDeskModel_isWord_30 lV_TrustDeskModel_214 (by decide) rfl (by decide) (Nat.le_of_ble_eq_true rfl) ?_
        refine mv_icmp_ge_f (tgt := 63) d_TrustDeskModel_isWord_33 (by decide) (by decide) ?_
        refine mv_aload_n d_TrustDeskModel_isWord_36 rfl rfl ?_
        refine tr_getK (k := 13) q10 d_TrustDeskModel_isWord_37 f_TrustDeskModel_44_13 ?_
        refine mv_aload_n d_TrustDeskModel_isWord_40 rfl rfl ?_
        refine tr_getK (k := 16) q6 d_TrustDeskModel_isWord_41 f_TrustDeskModel_195_13 ?_
        refine mv_iload_n d_TrustDeskModel_isWord_44 rfl rfl ?_
        refine mv_iadd d_TrustDeskModel_isWord_45 ?_
        have b17 : (v7 + 1 : Int32).toInt = (v7.toInt + 1) := mz_add2 rfl (by decide) (by have := yR.1 15 _ _ rfl; have := yR.1 16 _ _ rfl; have := yR.1 19 _ _ rfl; omega) (by have := yR.1 15 _ _ rfl; have := yR.1 16 _ _ rfl; have := yR.1 19 _ _ rfl; omega)
        refine tr_baldR (o := o0) (k := 13) I0 q10 t_a11 (by decide) d_TrustDeskModel_isWord_46 (vp_in_iff.mpr (by have := yR.1 15 _ _ rfl; have := yR.1 16 _ _ rfl; have := yR.1 19 _ _ rfl; omega)) (fun v18 e19 => ?_)
        have := yR.a (k := 13) rfl ((v7 + 1) : Int32).toNatClampNeg
        have h20 : (v7 + 1).toNatClampNeg = (rv M0 o0 16).toNat + 1 := by have := mz_nat9 (i := (v7 + 1)) (by have := yR.1 15 _ _ rfl; have := yR.1 16 _ _ rfl; have := yR.1 19 _ _ rfl; omega); have := yR.1 15 _ _ rfl; have := yR.1 16 _ _ rfl; have := yR.1 19 _ _ rfl; omega
        have : v18.toInt = ra M0 o0 13 ((rv M0 o0 16).toNat + 1) := by rw [e19, h20]
        refine mv_aload_n d_TrustDeskModel_isWord_47 rfl rfl ?_
        refine mv_iload_n d_TrustDeskModel_isWord_48 rfl rfl ?_
        refine mv_schC (i := 32) (v := 110) d_TrustDeskModel_isWord_49 lV_TrustDeskModel_220 (by decide) rfl (by decide) (by decide) (Nat.le_of_ble_eq_true rfl) (by decide) ?_
        have := mz_hi v18
        refine mv_icmp_eqZ (tgt := 57) (a := v18.toInt) (b := 110) d_TrustDeskModel_isWord_52 (by decide) rfl (by decide) (fun b21 => ?_) (fun b21 => ?_)
        · refine mv_iinc (v := 2) (lv' := [(2, .int 2), (0, .ref o0), (1, .ref 42)]) d_TrustDeskModel_isWord_57 rfl (by decide) (by decide) rfl ?_
          refine mv_goto (tgt := 28) d_TrustDeskModel_isWord_60 (by decide) ?_
          refine mv_iload_n d_TrustDeskModel_isWord_28 rfl rfl ?_
          refine mv_aload_n d_TrustDeskModel_isWord_29 rfl rfl ?_
          refine mv_slenK (i := 32) (v := 3) d_TrustDeskModel_isWord_30 lV_TrustDeskModel_214 (by decide) rfl (by decide) (Nat.le_of_ble_eq_true rfl) ?_
          refine mv_icmp_ge_f (tgt := 63) d_TrustDeskModel_isWord_33 (by decide) (by decide) ?_
          refine mv_aload_n d_TrustDeskModel_isWord_36 rfl rfl ?_
          refine tr_getK (k := 13) q10 d_TrustDeskModel_isWord_37 f_TrustDeskModel_44_13 ?_
          refine mv_aload_n d_TrustDeskModel_isWord_40 rfl rfl ?_
          refine tr_getK (k := 16) q6 d_TrustDeskModel_isWord_41 f_TrustDeskModel_195_13 ?_
          refine mv_iload_n d_TrustDeskModel_isWord_44 rfl rfl ?_
          refine mv_iadd d_TrustDeskModel_isWord_45 ?_
          have b22 : (v7 + 2 : Int32).toInt = (v7.toInt + 2) := mz_add2 rfl (by decide) (by have := yR.1 15 _ _ rfl; have := yR.1 16 _ _ rfl; have := yR.1 19 _ _ rfl; omega) (by have := yR.1 15 _ _ rfl; have := yR.1 16 _ _ rfl; have := yR.1 19 _ _ rfl; omega)
          refine tr_baldR (o := o0) (k := 13) I0 q10 t_a11 (by decide) d_TrustDeskModel_isWord_46 (vp_in_iff.mpr (by have := yR.1 15 _ _ rfl; have := yR.1 16 _ _ rfl; have := yR.1 19 _ _ rfl; omega)) (fun v23 e24 => ?_)
          have := yR.a (k := 13) rfl ((v7 + 2) : Int32).toNatClampNeg
          have h25 : (v7 + 2).toNatClampNeg = (rv M0 o0 16).toNat + 2 := by have := mz_nat9 (i := (v7 + 2)) (by have := yR.1 15 _ _ rfl; have := yR.1 16 _ _ rfl; have := yR.1 19 _ _ rfl; omega); have := yR.1 15 _ _ rfl; have := yR.1 16 _ _ rfl; have := yR.1 19 _ _ rfl; omega
          have : v23.toInt = ra M0 o0 13 ((rv M0 o0 16).toNat + 2) := by rw [e24, h25]
          refine mv_aload_n d_TrustDeskModel_isWord_47 rfl rfl ?_
          refine mv_iload_n d_TrustDeskModel_isWord_48 rfl rfl ?_
          refine mv_schC (i := 32) (v := 100) d_TrustDeskModel_isWord_49 lV_TrustDeskModel_220 (by decide) rfl (by decide) (by decide) (Nat.le_of_ble_eq_true rfl) (by decide) ?_
          have := mz_hi v23
          refine mv_icmp_eqZ (tgt := 57) (a := v23.toInt) (b := 100) d_TrustDeskModel_isWord_52 (by decide) rfl (by decide) (fun b26 => ?_) (fun b26 => ?_)
          · refine mv_iinc (v := 3) (lv' := [(2, .int 3), (0, .ref o0), (1, .ref 42)]) d_TrustDeskModel_isWord_57 rfl (by decide) (by decide) rfl ?_
            refine mv_goto (tgt := 28) d_TrustDeskModel_isWord_60 (by decide) ?_
            refine mv_iload_n d_TrustDeskModel_isWord_28 rfl rfl ?_
            refine mv_aload_n d_TrustDeskModel_isWord_29 rfl rfl ?_
            refine mv_slenK (i := 32) (v := 3) d_TrustDeskModel_isWord_30 lV_TrustDeskModel_214 (by decide) rfl (by decide) (Nat.le_of_ble_eq_true rfl) ?_
            refine mv_icmp_ge_t (tgt := 63) d_TrustDeskModel_isWord_33 (by decide) (by decide) ?_
            refine mv_iconst (v := 1) d_TrustDeskModel_isWord_63 (by decide) ?_
            exact mv_iret d_TrustDeskModel_isWord_64 rfl (by decide) ⟨_, I0, _, rfl, by decide, by decide, yR, (fun _ => by have := yR.1 15 _ _ rfl; have := yR.1 16 _ _ rfl; have := yR.1 19 _ _ rfl; omega), (fun _ => ⟨by have := yR.1 15 _ _ rfl; have := yR.1 16 _ _ rfl; have := yR.1 19 _ _ rfl; omega, by have := yR.1 15 _ _ rfl; have := yR.1 16 _ _ rfl; have := yR.1 19 _ _ rfl; omega, by have := yR.1 15 _ _ rfl; have := yR.1 16 _ _ rfl; have := yR.1 19 _ _ rfl; omega, by have := yR.1 15 _ _ rfl; have := yR.1 16 _ _ rfl; have := yR.1 19 _ _ rfl; omega, by have := yR.1 15 _ _ rfl; have := yR.1 16 _ _ rfl; have := yR.1 19 _ _ rfl; omega⟩), (fun h => absurd h (by decide))⟩
          · refine mv_iconst (v := 0) d_TrustDeskModel_isWord_55 (by decide) ?_
            exact mv_iret d_TrustDeskModel_isWord_56 rfl (by decide) ⟨_, I0, _, rfl, by decide, by decide, yR, (fun h => absurd h (by decide)), (fun h => absurd h (by decide)), (fun _ h => by obtain ⟨h1, h2, h3, h4, h5⟩ := h; have := yR.1 15 _ _ rfl; have := yR.1 16 _ _ rfl; have := yR.1 19 _ _ rfl; omega)⟩
        · refine mv_iconst (v := 0) d_TrustDeskModel_isWord_55 (by decide) ?_
          exact mv_iret d_TrustDeskModel_isWord_56 rfl (by decide) ⟨_, I0, _, rfl, by decide, by decide, yR, (fun h => absurd h (by decide)), (fun h => absurd h (by decide)), (fun _ h => by obtain ⟨h1, h2, h3, h4, h5⟩ := h; have := yR.1 15 _ _ rfl; have := yR.1 16 _ _ rfl; have := yR.1 19 _ _ rfl; omega)⟩
      · refine mv_iconst (v := 0) d_TrustDeskModel_isWord_55 (by decide) ?_
        exact mv_iret d_TrustDeskModel_isWord_56 rfl (by decide) ⟨_, I0, _, rfl, by decide, by decide, yR, (fun h => absurd h (by decide)), (fun h => absurd h (by decide)), (fun _ h => by obtain ⟨h1, h2, h3, h4, h5⟩ := h; have := yR.1 15 _ _ rfl; have := yR.1 16 _ _ rfl; have := yR.1 19 _ _ rfl; omega)⟩
    · refine mv_iconst (v := 0) d_TrustDeskModel_isWord_24 (by decide) ?_
      exact mv_iret d_TrustDeskModel_isWord_25 rfl (by decide) ⟨_, I0, _, rfl, by decide, by decide, yR, (fun h => absurd h (by decide)), (fun h => absurd h (by decide)), (fun _ h => by obtain ⟨h1, h2, h3, h4, h5⟩ := h; have := yR.1 15 _ _ rfl; have := yR.1 16 _ _ rfl; have := yR.1 19 _ _ rfl; omega)⟩
theorem d_TrustDeskModel_readClause_7 : decode kY_TrustDeskModel_readClause.2.1 7 = .ok (.istore_n 1, 1) := by decide +kernel
theorem d_TrustDeskModel_readClause_8 : decode kY_TrustDeskModel_readClause.2.1 8 = .ok (.iload_n 1, 1) := by decide +kernel
theorem d_TrustDeskModel_readClause_9 : decode kY_TrustDeskModel_readClause.2.1 9 = .ok (.ifCond .ne 31, 3) := by decide +kernel
theorem d_TrustDeskModel_readClause_40 : decode kY_TrustDeskModel_readClause.2.1 40 = .ok (.aload_n 0, 1) := by decide +kernel
theorem d_TrustDeskModel_readClause_41 : decode kY_TrustDeskModel_readClause.2.1 41 = .ok (.getfield 23, 3) := by decide +kernel
theorem d_TrustDeskModel_readClause_44 : decode kY_TrustDeskModel_readClause.2.1 44 = .ok (.bipush 44, 2) := by decide +kernel
theorem d_TrustDeskModel_readClause_46 : decode kY_TrustDeskModel_readClause.2.1 46 = .ok (.iaload, 1) := by decide +kernel
theorem d_TrustDeskModel_readClause_47 : decode kY_TrustDeskModel_readClause.2.1 47 = .ok (.bipush 12, 2) := by decide +kernel
theorem d_TrustDeskModel_readClause_49 : decode kY_TrustDeskModel_readClause.2.1 49 = .ok (.if_icmp .eq 16, 3) := by decide +kernel
theorem d_TrustDeskModel_readClause_65 : decode kY_TrustDeskModel_readClause.2.1 65 = .ok (.aload_n 0, 1) := by decide +kernel
theorem d_TrustDeskModel_readClause_66 : decode kY_TrustDeskModel_readClause.2.1 66 = .ok (.iconst 4, 1) := by decide +kernel
theorem d_TrustDeskModel_readClause_67 : decode kY_TrustDeskModel_readClause.2.1 67 = .ok (.invokevirtual 240, 3) := by decide +kernel
theorem d_TrustDeskModel_readClause_70 : decode kY_TrustDeskModel_readClause.2.1 70 = .ok (.aload_n 0, 1) := by decide +kernel
theorem d_TrustDeskModel_readClause_71 : decode kY_TrustDeskModel_readClause.2.1 71 = .ok (.invokevirtual 230, 3) := by decide +kernel
theorem d_TrustDeskModel_readClause_74 : decode kY_TrustDeskModel_readClause.2.1 74 = .ok (.ifCond .ne 4, 3) := by decide +kernel
theorem d_TrustDeskModel_readClause_77 : decode kY_TrustDeskModel_readClause.2.1 77 = .ok (.return_, 1) := by decide +kernel
theorem d_TrustDeskModel_readClause_52 : decode kY_TrustDeskModel_readClause.2.1 52 = .ok (.iload_n 1, 1) := by decide +kernel
theorem d_TrustDeskModel_readClause_53 : decode kY_TrustDeskModel_readClause.2.1 53 = .ok (.ifCond .eq 17, 3) := by decide +kernel
theorem d_TrustDeskModel_readClause_56 : decode kY_TrustDeskModel_readClause.2.1 56 = .ok (.aload_n 0, 1) := by decide +kernel
theorem d_TrustDeskModel_readClause_57 : decode kY_TrustDeskModel_readClause.2.1 57 = .ok (.getfield 321, 3) := by decide +kernel
theorem d_TrustDeskModel_readClause_60 : decode kY_TrustDeskModel_readClause.2.1 60 = .ok (.bipush 6, 2) := by decide +kernel
theorem d_TrustDeskModel_readClause_62 : decode kY_TrustDeskModel_readClause.2.1 62 = .ok (.if_icmp .ne 8, 3) := by decide +kernel
theorem d_TrustDeskModel_readClause_78 : decode kY_TrustDeskModel_readClause.2.1 78 = .ok (.aload_n 0, 1) := by decide +kernel
theorem d_TrustDeskModel_readClause_79 : decode kY_TrustDeskModel_readClause.2.1 79 = .ok (.ldc_w 338, 3) := by decide +kernel
theorem d_TrustDeskModel_readClause_82 : decode kY_TrustDeskModel_readClause.2.1 82 = .ok (.invokevirtual 244, 3) := by decide +kernel
def w_TrustDeskModel_isWord_s1_43_x : List Nat := []
theorem tc_TrustDeskModel_isWord_s1_43_x {g : mj_G} {l : Launch} {d : Nat} {T0 : tm_H} {M0 : mj_M} {n0 x9 : Nat} {o0 : Nat} (h_o0 : T0 o0 = some (0, 13, 0)) (yR : rI M0 o0) (I0 : tm_I tm_FT (tm_in w_TrustDeskModel_isWord_s1_43_x) x9 T0 M0 n0 T0 M0 n0) : mj_Met g l kY_TrustDeskModel_isWord (d + 4) [.ref o0, .ref 43] M0 n0 0 0 (tm_Q tm_FT (tm_in w_TrustDeskModel_isWord_s1_43_x) x9 T0 M0 n0 (fun r _ M => ∃ v : Int32, r = some (.int v) ∧ 0 ≤ v.toInt ∧ v.toInt ≤ 1 ∧ rI M o0 ∧ (v.toInt = 1 → rv M0 o0 17 = 3))) := by
  refine mj_enter (by decide) (Nat.le_of_ble_eq_true rfl) ?_
  refine mv_aload_n d_TrustDeskModel_isWord_0 rfl rfl ?_
  obtain ⟨v2, q1⟩ := tm_atI I0 h_o0 (k := 17) rfl
  refine tr_getK q1 d_TrustDeskModel_isWord_1 f_TrustDeskModel_198_13 ?_
  have := tm_rv q1
  refine mv_iconst (v := 3) d_TrustDeskModel_isWord_4 (by decide) ?_
  have := mz_hi v2
  refine mv_icmp_neZ (tgt := 24) (a := v2.toInt) (b := 3) d_TrustDeskModel_isWord_5 (by decide) rfl (by decide) (fun b3 => ?_) (fun b3 => ?_)
  · refine mv_iconst (v := 0) d_TrustDeskModel_isWord_24 (by decide) ?_
    exact mv_iret d_TrustDeskModel_isWord_25 rfl (by decide) ⟨_, I0, _, rfl, by decide, by decide, yR, (fun h => absurd h (by decide))⟩
  · refine mv_aload_n d_TrustDeskModel_isWord_8 rfl rfl ?_
    obtain ⟨v5, q4⟩ := tm_atI I0 h_o0 (k := 15) rfl
    refine tr_getK q4 d_TrustDeskModel_isWord_9 f_TrustDeskModel_192_13 ?_
    have := yR.f (k := 15) q4 rfl
    have := tm_rv q4
    refine mv_aload_n d_TrustDeskModel_isWord_12 rfl rfl ?_
    obtain ⟨v7, q6⟩ := tm_atI I0 h_o0 (k := 16) rfl
    refine tr_getK q6 d_TrustDeskModel_isWord_13 f_TrustDeskModel_195_13 ?_
    have := yR.f (k := 16) q6 rfl
    have := tm_rv q6
    refine mv_isub d_TrustDeskModel_isWord_16 ?_
    refine mv_aload_n d_TrustDeskModel_isWord_17 rfl rfl ?_
    refine mv_slenK (i := 33) (v := 4) d_TrustDeskModel_isWord_18 lV_TrustDeskModel_214 (by decide) rfl (by decide) (Nat.le_of_ble_eq_true rfl) ?_
    have b8 : (v5 - v7 : Int32).toInt = (v5.toInt - v7.toInt) := mz_sub2 rfl rfl (by have := yR.1 15 _ _ rfl; have := yR.1 16 _ _ rfl; have := yR.1 19 _ _ rfl; omega) (by have := yR.1 15 _ _ rfl; have := yR.1 16 _ _ rfl; have := yR.1 19 _ _ rfl; omega)
    have := mz_hi (v5 - v7)
    refine mv_icmp_eqZ (tgt := 26) (a := (v5 - v7).toInt) (b := 4) d_TrustDeskModel_isWord_21 (by decide) rfl (by decide) (fun b9 => ?_) (fun b9 => ?_)
    · refine mv_iconst (v := 0) d_TrustDeskModel_isWord_26 (by decide) ?_
      refine mv_istore_n (lv' := [(2, .int 0), (0, .ref o0), (1, .ref 43)]) d_TrustDeskModel_isWord_27 rfl (by decide) rfl ?_
      have L28_10 : ∀ (k : Nat) (i2_10 : Int32) (T_10 : tm_H) (M_10 : mj_M) (n_10 : Nat), tm_I tm_FT (tm_in w_TrustDeskModel_isWord_s1_43_x) x9 T0 M0 n0 T_10 M_10 n_10 → T_10 o0 = some (0, 13, 0) → 0 ≤ i2_10.toInt → rv M_10 o0 15 = rv M0 o0 15 → rv M_10 o0 16 = rv M0 o0 16 → i2_10.toInt ≤ 2147483646 → (rI M_10 o0) → 2147483647 - i2_10.toInt < (k : Int) → mj_V g l kY_TrustDeskModel_isWord (d + 4) 28 [(2, .int i2_10), (0, .ref o0), (1, .ref 43)] [] M_10 n_10 0 0 (tm_Q tm_FT (tm_in w_TrustDeskModel_isWord_s1_43_x) x9 T0 M0 n0 (fun r _ M => ∃ v : Int32, r = some (.int v) ∧ 0 ≤ v.toInt ∧ v.toInt ≤ 1 ∧ rI M o0 ∧ (v.toInt = 1 → rv M0 o0 17 = 3))) := by
        intro k10
        induction k10 with
        | zero =>
          intro i2_10 T_10 M_10 n_10 I_10 h_q0_10 iv0_10 iv1_10 iv2_10 iv3_10 kKR_10 hk10
          have := mz_hi i2_10
          have := kKR_10.1 15 _ _ rfl
          have := kKR_10.1 16 _ _ rfl
          have := kKR_10.1 19 _ _ rfl
          omega
        | succ k10 ih10 =>
          intro i2_10 T_10 M_10 n_10 I_10 h_q0_10 iv0_10 iv1_10 iv2_10 iv3_10 kKR_10 hk10
          refine mv_iload_n d_TrustDeskModel_isWord_28 rfl rfl ?_
          refine mv_aload_n d_TrustDeskModel_isWord_29 rfl rfl ?_
          refine mv_slenK (i := 33) (v := 4) d_TrustDeskModel_isWord_30 lV_TrustDeskModel_214 (by decide) rfl (by decide) (Nat.le_of_ble_eq_true rfl) ?_
          have := mz_hi i2_10
          refine mv_icmp_geZ (tgt := 63) (a := i2_10.toInt) (b := 4) d_TrustDeskModel_isWord_33 (by decide) rfl (by decide) (fun b11 => ?_) (fun b11 => ?_)
          · refine mv_iconst (v := 1) d_TrustDeskModel_isWord_63 (by decide) ?_
            exact mv_iret d_TrustDeskModel_isWord_64 rfl (by decide) ⟨_, I_10, _, rfl, by decide, by decide, kKR_10, (fun _ => by omega)⟩
          · refine mv_aload_n d_TrustDeskModel_isWord_36 rfl rfl ?_
            obtain ⟨a13, q12, t_a13⟩ := tm_atR I_10 h_q0_10 (k := 13) rfl
            refine tr_getK q12 d_TrustDeskModel_isWord_37 f_TrustDeskModel_44_13 ?_
            refine mv_aload_n d_TrustDeskModel_isWord_40 rfl rfl ?_
            obtain ⟨v15, q14⟩ := tm_atI I_10 h_q0_10 (k := 16) rfl
            refine tr_getK q14 d_TrustDeskModel_isWord_41 f_TrustDeskModel_195_13 ?_
            have := kKR_10.f (k := 16) q14 rfl
            have := tm_rv q14
            refine mv_iload_n d_TrustDeskModel_isWord_44 rfl rfl ?_
            refine mv_iadd d_TrustDeskModel_isWord_45 ?_
            have b16 : (v15 + i2_10 : Int32).toInt = (v15.toInt + i2_10.toInt) := mz_add2 rfl rfl (by have := kKR_10.1 15 _ _ rfl; have := kKR_10.1 16 _ _ rfl; have := kKR_10.1 19 _ _ rfl; omega) (by have := kKR_10.1 15 _ _ rfl; have := kKR_10.1 16 _ _ rfl; have := kKR_10.1 19 _ _ rfl; omega)
            refine tr_baldR (o := o0) (k := 13) I_10 q12 t_a13 (by decide) d_TrustDeskModel_isWord_46 (vp_in_iff.mpr (by have := kKR_10.1 15 _ _ rfl; have := kKR_10.1 16 _ _ rfl; have := kKR_10.1 19 _ _ rfl; omega)) (fun v17 e18 => ?_)
            have := kKR_10.a (k := 13) rfl ((v15 + i2_10) : Int32).toNatClampNeg
            refine mv_aload_n d_TrustDeskModel_isWord_47 rfl rfl ?_
            refine mv_iload_n d_TrustDeskModel_isWord_48 rfl rfl ?_
            refine mv_schN (i := 33) (N := 4) d_TrustDeskModel_isWord_49 lV_TrustDeskModel_220 (by decide) rfl rfl (by omega) (by omega) (Nat.le_of_ble_eq_true rfl) (fun v19 => ?_)
            have := mz_hi v17
            have := mz_hi v19
            refine mv_icmp_eqZ (tgt := 57) (a := v17.toInt) (b := v19.toInt) d_TrustDeskModel_isWord_52 (by decide) rfl rfl (fun b20 => ?_) (fun b20 => ?_)
            · refine mv_iinc (v := (i2_10 + 1)) (lv' := [(2, .int (i2_10 + 1)), (0, .ref o0), (1, .ref 43)]) d_TrustDeskModel_isWord_57 rfl rfl (by decide) rfl ?_
              refine mv_goto (tgt := 28) d_TrustDeskModel_isWord_60 (by decide) ?_
              have b21 : (i2_10 + 1).toInt = i2_10.toInt + 1 := mz_addn 1 1 (by decide) (by have := mz_lo i2_10; omega) (by have := mz_hi i2_10; omega)
              exact (ih10 (i2_10 + 1) T_10 M_10 n_10 I_10 h_q0_10 (by have := kKR_10.1 15 _ _ rfl; have := kKR_10.1 16 _ _ rfl; have := kKR_10.1 19 _ _ rfl; first | omega | decide | exact fun h9 => absurd (by decide) h9) (by have := kKR_10.1 15 _ _ rfl; have := kKR_10.1 16 _ _ rfl; have := kKR_10.1 19 _ _ rfl; first | omega | decide | exact fun h9 => absurd (by decide) h9) (by have := kKR_10.1 15 _ _ rfl; have := kKR_10.1 16 _ _ rfl; have := kKR_10.1 19 _ _ rfl; first | omega | decide | exact fun h9 => absurd (by decide) h9) (by have := kKR_10.1 15 _ _ rfl; have := kKR_10.1 16 _ _ rfl; have := kKR_10.1 19 _ _ rfl; first | omega | decide | exact fun h9 => absurd (by decide) h9) kKR_10 (by have := kKR_10.1 15 _ _ rfl; have := kKR_10.1 16 _ _ rfl; have := kKR_10.1 19 _ _ rfl; omega))
            · refine mv_iconst (v := 0) d_TrustDeskModel_isWord_55 (by decide) ?_
              exact mv_iret d_TrustDeskModel_isWord_56 rfl (by decide) ⟨_, I_10, _, rfl, by decide, by decide, kKR_10, (fun h => absurd h (by decide))⟩
      exact mv_less (Nat.zero_le _) (Nat.zero_le _) (L28_10 4294967296 0 T0 M0 n0 I0 h_o0 (by have := yR.1 15 _ _ rfl; have := yR.1 16 _ _ rfl; have := yR.1 19 _ _ rfl; first | omega | decide | exact fun h9 => absurd (by decide) h9) (by have := yR.1 15 _ _ rfl; have := yR.1 16 _ _ rfl; have := yR.1 19 _ _ rfl; first | omega | decide | exact fun h9 => absurd (by decide) h9) (by have := yR.1 15 _ _ rfl; have := yR.1 16 _ _ rfl; have := yR.1 19 _ _ rfl; first | omega | decide | exact fun h9 => absurd (by decide) h9) (by have := yR.1 15 _ _ rfl; have := yR.1 16 _ _ rfl; have := yR.1 19 _ _ rfl; first | omega | decide | exact fun h9 => absurd (by decide) h9) yR (by show (2147483647 - (0 : Int) : Int) < _; decide))
    · refine mv_iconst (v := 0) d_TrustDeskModel_isWord_24 (by decide) ?_
      exact mv_iret d_TrustDeskModel_isWord_25 rfl (by decide) ⟨_, I0, _, rfl, by decide, by decide, yR, (fun h => absurd h (by decide))⟩
theorem d_TrustDeskModel_readClause_85 : decode kY_TrustDeskModel_readClause.2.1 85 = .ok (.istore_n 2, 1) := by decide +kernel
theorem d_TrustDeskModel_readClause_86 : decode kY_TrustDeskModel_readClause.2.1 86 = .ok (.aload_n 0, 1) := by decide +kernel
theorem d_TrustDeskModel_readClause_87 : decode kY_TrustDeskModel_readClause.2.1 87 = .ok (.iload_n 1, 1) := by decide +kernel
theorem d_TrustDeskModel_readClause_88 : decode kY_TrustDeskModel_readClause.2.1 88 = .ok (.ifCond .eq 8, 3) := by decide +kernel
theorem d_TrustDeskModel_readClause_91 : decode kY_TrustDeskModel_readClause.2.1 91 = .ok (.bipush 8, 2) := by decide +kernel
theorem d_TrustDeskModel_readClause_93 : decode kY_TrustDeskModel_readClause.2.1 93 = .ok (.goto 14, 3) := by decide +kernel
theorem d_TrustDeskModel_readClause_107 : decode kY_TrustDeskModel_readClause.2.1 107 = .ok (.invokevirtual 342, 3) := by decide +kernel
theorem lV_TrustDeskModel_342 : mj_lV "TrustDeskModel" 342 kY_TrustDeskModel_begin 1 := ⟨⟨(mj_in1 (List.mem_of_getElem? (i := 1691) (by decide +kernel)) rfl), (mj_in1 (List.mem_of_getElem? (i := 10) (by decide +kernel)) rfl), (mj_in1 (List.mem_of_getElem? (i := 1694) (by decide +kernel)) rfl), by decide, rfl, by decide⟩, (mj_in1 (List.mem_of_getElem? (i := 1693) (by decide +kernel)) rfl), (mj_in (List.mem_append_left _ (List.mem_of_getElem? (i := 88) (by decide +kernel))) rfl)⟩
theorem d_TrustDeskModel_readClause_110 : decode kY_TrustDeskModel_readClause.2.1 110 = .ok (.istore_n 3, 1) := by decide +kernel
theorem d_TrustDeskModel_readClause_111 : decode kY_TrustDeskModel_readClause.2.1 111 = .ok (.iload_n 1, 1) := by decide +kernel
theorem d_TrustDeskModel_readClause_112 : decode kY_TrustDeskModel_readClause.2.1 112 = .ok (.ifCond .eq 11, 3) := by decide +kernel
theorem d_TrustDeskModel_readClause_115 : decode kY_TrustDeskModel_readClause.2.1 115 = .ok (.aload_n 0, 1) := by decide +kernel
theorem d_TrustDeskModel_readClause_116 : decode kY_TrustDeskModel_readClause.2.1 116 = .ok (.iload_n 3, 1) := by decide +kernel
theorem d_TrustDeskModel_readClause_117 : decode kY_TrustDeskModel_readClause.2.1 117 = .ok (.invokevirtual 345, 3) := by decide +kernel
theorem lV_TrustDeskModel_345 : mj_lV "TrustDeskModel" 345 kY_TrustDeskModel_readEnd 1 := ⟨⟨(mj_in1 (List.mem_of_getElem? (i := 1802) (by decide +kernel)) rfl), (mj_in1 (List.mem_of_getElem? (i := 10) (by decide +kernel)) rfl), (mj_in1 (List.mem_of_getElem? (i := 1805) (by decide +kernel)) rfl), by decide, rfl, by decide⟩, (mj_in1 (List.mem_of_getElem? (i := 1804) (by decide +kernel)) rfl), (mj_in (List.mem_append_left _ (List.mem_of_getElem? (i := 107) (by decide +kernel))) rfl)⟩
theorem d_TrustDeskModel_readClause_120 : decode kY_TrustDeskModel_readClause.2.1 120 = .ok (.goto 45, 3) := by decide +kernel
theorem d_TrustDeskModel_readClause_165 : decode kY_TrustDeskModel_readClause.2.1 165 = .ok (.aload_n 0, 1) := by decide +kernel
theorem d_TrustDeskModel_readClause_166 : decode kY_TrustDeskModel_readClause.2.1 166 = .ok (.bipush 59, 2) := by decide +kernel
theorem d_TrustDeskModel_readClause_168 : decode kY_TrustDeskModel_readClause.2.1 168 = .ok (.invokevirtual 291, 3) := by decide +kernel
theorem d_TrustDeskModel_readClause_171 : decode kY_TrustDeskModel_readClause.2.1 171 = .ok (.aload_n 0, 1) := by decide +kernel
theorem d_TrustDeskModel_readClause_172 : decode kY_TrustDeskModel_readClause.2.1 172 = .ok (.getfield 41, 3) := by decide +kernel
theorem f_TrustDeskModel_41_13 : mj_fl "TrustDeskModel" 41 13 12 := ⟨kR_TrustDeskModel, kF_TrustDeskModel, 72, "TrustDeskModel", rfl, kg_13, by decide, (mj_in1 (List.mem_of_getElem? (i := 1398) (by decide +kernel)) rfl), Or.inl rfl⟩
theorem d_TrustDeskModel_readClause_175 : decode kY_TrustDeskModel_readClause.2.1 175 = .ok (.iload_n 3, 1) := by decide +kernel
theorem d_TrustDeskModel_readClause_176 : decode kY_TrustDeskModel_readClause.2.1 176 = .ok (.aload_n 0, 1) := by decide +kernel
theorem d_TrustDeskModel_readClause_177 : decode kY_TrustDeskModel_readClause.2.1 177 = .ok (.getfield 20, 3) := by decide +kernel
theorem d_TrustDeskModel_readClause_180 : decode kY_TrustDeskModel_readClause.2.1 180 = .ok (.bipush 44, 2) := by decide +kernel
theorem d_TrustDeskModel_readClause_182 : decode kY_TrustDeskModel_readClause.2.1 182 = .ok (.iaload, 1) := by decide +kernel
theorem d_TrustDeskModel_readClause_183 : decode kY_TrustDeskModel_readClause.2.1 183 = .ok (.iastore, 1) := by decide +kernel
theorem d_TrustDeskModel_readClause_184 : decode kY_TrustDeskModel_readClause.2.1 184 = .ok (.return_, 1) := by decide +kernel
theorem d_TrustDeskModel_readClause_12 : decode kY_TrustDeskModel_readClause.2.1 12 = .ok (.aload_n 0, 1) := by decide +kernel
theorem d_TrustDeskModel_readClause_13 : decode kY_TrustDeskModel_readClause.2.1 13 = .ok (.ldc_w 338, 3) := by decide +kernel
theorem d_TrustDeskModel_readClause_16 : decode kY_TrustDeskModel_readClause.2.1 16 = .ok (.invokevirtual 244, 3) := by decide +kernel
theorem d_TrustDeskModel_readClause_19 : decode kY_TrustDeskModel_readClause.2.1 19 = .ok (.ifCond .ne 21, 3) := by decide +kernel
theorem d_TrustDeskModel_readClause_96 : decode kY_TrustDeskModel_readClause.2.1 96 = .ok (.iload_n 2, 1) := by decide +kernel
theorem d_TrustDeskModel_readClause_97 : decode kY_TrustDeskModel_readClause.2.1 97 = .ok (.ifCond .eq 8, 3) := by decide +kernel
theorem d_TrustDeskModel_readClause_105 : decode kY_TrustDeskModel_readClause.2.1 105 = .ok (.bipush 9, 2) := by decide +kernel
theorem d_TrustDeskModel_readClause_123 : decode kY_TrustDeskModel_readClause.2.1 123 = .ok (.iload_n 2, 1) := by decide +kernel
theorem d_TrustDeskModel_readClause_124 : decode kY_TrustDeskModel_readClause.2.1 124 = .ok (.ifCond .eq 11, 3) := by decide +kernel
theorem d_TrustDeskModel_readClause_135 : decode kY_TrustDeskModel_readClause.2.1 135 = .ok (.aload_n 0, 1) := by decide +kernel
theorem d_TrustDeskModel_readClause_136 : decode kY_TrustDeskModel_readClause.2.1 136 = .ok (.getfield 29, 3) := by decide +kernel
theorem d_TrustDeskModel_readClause_139 : decode kY_TrustDeskModel_readClause.2.1 139 = .ok (.iload_n 3, 1) := by decide +kernel
theorem d_TrustDeskModel_readClause_140 : decode kY_TrustDeskModel_readClause.2.1 140 = .ok (.aload_n 0, 1) := by decide +kernel
theorem d_TrustDeskModel_readClause_141 : decode kY_TrustDeskModel_readClause.2.1 141 = .ok (.iconst 1, 1) := by decide +kernel
theorem d_TrustDeskModel_readClause_142 : decode kY_TrustDeskModel_readClause.2.1 142 = .ok (.bipush 7, 2) := by decide +kernel
theorem d_TrustDeskModel_readClause_144 : decode kY_TrustDeskModel_readClause.2.1 144 = .ok (.invokevirtual 317, 3) := by decide +kernel
theorem d_TrustDeskModel_readClause_147 : decode kY_TrustDeskModel_readClause.2.1 147 = .ok (.iastore, 1) := by decide +kernel
theorem d_TrustDeskModel_readClause_148 : decode kY_TrustDeskModel_readClause.2.1 148 = .ok (.aload_n 0, 1) := by decide +kernel
theorem d_TrustDeskModel_readClause_149 : decode kY_TrustDeskModel_readClause.2.1 149 = .ok (.getfield 32, 3) := by decide +kernel
theorem d_TrustDeskModel_readClause_152 : decode kY_TrustDeskModel_readClause.2.1 152 = .ok (.iload_n 3, 1) := by decide +kernel
theorem d_TrustDeskModel_readClause_153 : decode kY_TrustDeskModel_readClause.2.1 153 = .ok (.aload_n 0, 1) := by decide +kernel
theorem d_TrustDeskModel_readClause_154 : decode kY_TrustDeskModel_readClause.2.1 154 = .ok (.iconst 1, 1) := by decide +kernel
theorem d_TrustDeskModel_readClause_155 : decode kY_TrustDeskModel_readClause.2.1 155 = .ok (.aload_n 0, 1) := by decide +kernel
theorem d_TrustDeskModel_readClause_156 : decode kY_TrustDeskModel_readClause.2.1 156 = .ok (.getfield 29, 3) := by decide +kernel
theorem d_TrustDeskModel_readClause_159 : decode kY_TrustDeskModel_readClause.2.1 159 = .ok (.iload_n 3, 1) := by decide +kernel
theorem d_TrustDeskModel_readClause_160 : decode kY_TrustDeskModel_readClause.2.1 160 = .ok (.iaload, 1) := by decide +kernel
theorem d_TrustDeskModel_readClause_161 : decode kY_TrustDeskModel_readClause.2.1 161 = .ok (.invokevirtual 317, 3) := by decide +kernel
theorem d_TrustDeskModel_readClause_164 : decode kY_TrustDeskModel_readClause.2.1 164 = .ok (.iastore, 1) := by decide +kernel
theorem d_TrustDeskModel_readClause_100 : decode kY_TrustDeskModel_readClause.2.1 100 = .ok (.bipush 7, 2) := by decide +kernel
theorem d_TrustDeskModel_readClause_102 : decode kY_TrustDeskModel_readClause.2.1 102 = .ok (.goto 5, 3) := by decide +kernel
theorem d_TrustDeskModel_readClause_127 : decode kY_TrustDeskModel_readClause.2.1 127 = .ok (.aload_n 0, 1) := by decide +kernel
theorem d_TrustDeskModel_readClause_128 : decode kY_TrustDeskModel_readClause.2.1 128 = .ok (.iload_n 3, 1) := by decide +kernel
theorem d_TrustDeskModel_readClause_129 : decode kY_TrustDeskModel_readClause.2.1 129 = .ok (.invokevirtual 348, 3) := by decide +kernel
theorem lV_TrustDeskModel_348 : mj_lV "TrustDeskModel" 348 kY_TrustDeskModel_readMarks 1 := ⟨⟨(mj_in1 (List.mem_of_getElem? (i := 1812) (by decide +kernel)) rfl), (mj_in1 (List.mem_of_getElem? (i := 10) (by decide +kernel)) rfl), (mj_in1 (List.mem_of_getElem? (i := 1815) (by decide +kernel)) rfl), by decide, rfl, by decide⟩, (mj_in1 (List.mem_of_getElem? (i := 1814) (by decide +kernel)) rfl), (mj_in (List.mem_append_left _ (List.mem_of_getElem? (i := 109) (by decide +kernel))) rfl)⟩
theorem d_TrustDeskModel_readClause_132 : decode kY_TrustDeskModel_readClause.2.1 132 = .ok (.goto 33, 3) := by decide +kernel
theorem d_TrustDeskModel_readClause_22 : decode kY_TrustDeskModel_readClause.2.1 22 = .ok (.aload_n 0, 1) := by decide +kernel
theorem d_TrustDeskModel_readClause_23 : decode kY_TrustDeskModel_readClause.2.1 23 = .ok (.ldc_w 340, 3) := by decide +kernel
theorem d_TrustDeskModel_readClause_26 : decode kY_TrustDeskModel_readClause.2.1 26 = .ok (.invokevirtual 244, 3) := by decide +kernel
def w_TrustDeskModel_isWord_s1_44_x : List Nat := []
theorem tc_TrustDeskModel_isWord_s1_44_x {g : mj_G} {l : Launch} {d : Nat} {T0 : tm_H} {M0 : mj_M} {n0 x9 : Nat} {o0 : Nat} (h_o0 : T0 o0 = some (0, 13, 0)) (yR : rI M0 o0) (I0 : tm_I tm_FT (tm_in w_TrustDeskModel_isWord_s1_44_x) x9 T0 M0 n0 T0 M0 n0) : mj_Met g l kY_TrustDeskModel_isWord (d + 4) [.ref o0, .ref 44] M0 n0 0 0 (tm_Q tm_FT (tm_in w_TrustDeskModel_isWord_s1_44_x) x9 T0 M0 n0 (fun r _ M => ∃ v : Int32, r = some (.int v) ∧ 0 ≤ v.toInt ∧ v.toInt ≤ 1 ∧ rI M o0 ∧ (v.toInt = 1 → rv M0 o0 17 = 3))) := by
  refine mj_enter (by decide) (Nat.le_of_ble_eq_true rfl) ?_
  refine mv_aload_n d_TrustDeskModel_isWord_0 rfl rfl ?_
  obtain ⟨v2, q1⟩ := tm_atI I0 h_o0 (k := 17) rfl
  refine tr_getK q1 d_TrustDeskModel_isWord_1 f_TrustDeskModel_198_13 ?_
  have := tm_rv q1
  refine mv_iconst (v := 3) d_TrustDeskModel_isWord_4 (by decide) ?_
  have := mz_hi v2
  refine mv_icmp_neZ (tgt := 24) (a := v2.toInt) (b := 3) d_TrustDeskModel_isWord_5 (by decide) rfl (by decide) (fun b3 => ?_) (fun b3 => ?_)
  · refine mv_iconst (v := 0) d_TrustDeskModel_isWord_24 (by decide) ?_
    exact mv_iret d_TrustDeskModel_isWord_25 rfl (by decide) ⟨_, I0, _, rfl, by decide, by decide, yR, (fun h => absurd h (by decide))⟩
  · refine mv_aload_n d_TrustDeskModel_isWord_8 rfl rfl ?_
    obtain ⟨v5, q4⟩ := tm_atI I0 h_o0 (k := 15) rfl
    refine tr_getK q4 d_TrustDeskModel_isWord_9 f_TrustDeskModel_192_13 ?_
    have := yR.f (k := 15) q4 rfl
    have := tm_rv q4
    refine mv_aload_n d_TrustDeskModel_isWord_12 rfl rfl ?_
    obtain ⟨v7, q6⟩ := tm_atI I0 h_o0 (k := 16) rfl
    refine tr_getK q6 d_TrustDeskModel_isWord_13 f_TrustDeskModel_195_13 ?_
    have := yR.f (k := 16) q6 rfl
    have := tm_rv q6
    refine mv_isub d_TrustDeskModel_isWord_16 ?_
    refine mv_aload_n d_TrustDeskModel_isWord_17 rfl rfl ?_
    refine mv_slenK (i := 34) (v := 5) d_TrustDeskModel_isWord_18 lV_TrustDeskModel_214 (by decide) rfl (by decide) (Nat.le_of_ble_eq_true rfl) ?_
    have b8 : (v5 - v7 : Int32).toInt = (v5.toInt - v7.toInt) := mz_sub2 rfl rfl (by have := yR.1 15 _ _ rfl; have := yR.1 16 _ _ rfl; have := yR.1 19 _ _ rfl; omega) (by have := yR.1 15 _ _ rfl; have := yR.1 16 _ _ rfl; have := yR.1 19 _ _ rfl; omega)
    have := mz_hi (v5 - v7)
    refine mv_icmp_eqZ (tgt := 26) (a := (v5 - v7).toInt) (b := 5) d_TrustDeskModel_isWord_21 (by decide) rfl (by decide) (fun b9 => ?_) (fun b9 => ?_)
    · refine mv_iconst (v := 0) d_TrustDeskModel_isWord_26 (by decide) ?_
      refine mv_istore_n (lv' := [(2, .int 0), (0, .ref o0), (1, .ref 44)]) d_TrustDeskModel_isWord_27 rfl (by decide) rfl ?_
      have L28_10 : ∀ (k : Nat) (i2_10 : Int32) (T_10 : tm_H) (M_10 : mj_M) (n_10 : Nat), tm_I tm_FT (tm_in w_TrustDeskModel_isWord_s1_44_x) x9 T0 M0 n0 T_10 M_10 n_10 → T_10 o0 = some (0, 13, 0) → 0 ≤ i2_10.toInt → rv M_10 o0 15 = rv M0 o0 15 → rv M_10 o0 16 = rv M0 o0 16 → i2_10.toInt ≤ 2147483646 → (rI M_10 o0) → 2147483647 - i2_10.toInt < (k : Int) → mj_V g l kY_TrustDeskModel_isWord (d + 4) 28 [(2, .int i2_10), (0, .ref o0), (1, .ref 44)] [] M_10 n_10 0 0 (tm_Q tm_FT (tm_in w_TrustDeskModel_isWord_s1_44_x) x9 T0 M0 n0 (fun r _ M => ∃ v : Int32, r = some (.int v) ∧ 0 ≤ v.toInt ∧ v.toInt ≤ 1 ∧ rI M o0 ∧ (v.toInt = 1 → rv M0 o0 17 = 3))) := by
        intro k10
        induction k10 with
        | zero =>
          intro i2_10 T_10 M_10 n_10 I_10 h_q0_10 iv0_10 iv1_10 iv2_10 iv3_10 kKR_10 hk10
          have := mz_hi i2_10
          have := kKR_10.1 15 _ _ rfl
          have := kKR_10.1 16 _ _ rfl
          have := kKR_10.1 19 _ _ rfl
          omega
        | succ k10 ih10 =>
          intro i2_10 T_10 M_10 n_10 I_10 h_q0_10 iv0_10 iv1_10 iv2_10 iv3_10 kKR_10 hk10
          refine mv_iload_n d_TrustDeskModel_isWord_28 rfl rfl ?_
          refine mv_aload_n d_TrustDeskModel_isWord_29 rfl rfl ?_
          refine mv_slenK (i := 34) (v := 5) d_TrustDeskModel_isWord_30 lV_TrustDeskModel_214 (by decide) rfl (by decide) (Nat.le_of_ble_eq_true rfl) ?_
          have := mz_hi i2_10
          refine mv_icmp_geZ (tgt := 63) (a := i2_10.toInt) (b := 5) d_TrustDeskModel_isWord_33 (by decide) rfl (by decide) (fun b11 => ?_) (fun b11 => ?_)
          · refine mv_iconst (v := 1) d_TrustDeskModel_isWord_63 (by decide) ?_
            exact mv_iret d_TrustDeskModel_isWord_64 rfl (by decide) ⟨_, I_10, _, rfl, by decide, by decide, kKR_10, (fun _ => by omega)⟩
          · refine mv_aload_n d_TrustDeskModel_isWord_36 rfl rfl ?_
            obtain ⟨a13, q12, t_a13⟩ := tm_atR I_10 h_q0_10 (k := 13) rfl
            refine tr_getK q12 d_TrustDeskModel_isWord_37 f_TrustDeskModel_44_13 ?_
            refine mv_aload_n d_TrustDeskModel_isWord_40 rfl rfl ?_
            obtain ⟨v15, q14⟩ := tm_atI I_10 h_q0_10 (k := 16) rfl
            refine tr_getK q14 d_TrustDeskModel_isWord_41 f_TrustDeskModel_195_13 ?_
            have := kKR_10.f (k := 16) q14 rfl
            have := tm_rv q14
            refine mv_iload_n d_TrustDeskModel_isWord_44 rfl rfl ?_
            refine mv_iadd d_TrustDeskModel_isWord_45 ?_
            have b16 : (v15 + i2_10 : Int32).toInt = (v15.toInt + i2_10.toInt) := mz_add2 rfl rfl (by have := kKR_10.1 15 _ _ rfl; have := kKR_10.1 16 _ _ rfl; have := kKR_10.1 19 _ _ rfl; omega) (by have := kKR_10.1 15 _ _ rfl; have := kKR_10.1 16 _ _ rfl; have := kKR_10.1 19 _ _ rfl; omega)
            refine tr_baldR (o := o0) (k := 13) I_10 q12 t_a13 (by decide) d_TrustDeskModel_isWord_46 (vp_in_iff.mpr (by have := kKR_10.1 15 _ _ rfl; have := kKR_10.1 16 _ _ rfl; have := kKR_10.1 19 _ _ rfl; omega)) (fun v17 e18 => ?_)
            have := kKR_10.a (k := 13) rfl ((v15 + i2_10) : Int32).toNatClampNeg
            refine mv_aload_n d_TrustDeskModel_isWord_47 rfl rfl ?_
            refine mv_iload_n d_TrustDeskModel_isWord_48 rfl rfl ?_
            refine mv_schN (i := 34) (N := 5) d_TrustDeskModel_isWord_49 lV_TrustDeskModel_220 (by decide) rfl rfl (by omega) (by omega) (Nat.le_of_ble_eq_true rfl) (fun v19 => ?_)
            have := mz_hi v17
            have := mz_hi v19
            refine mv_icmp_eqZ (tgt := 57) (a := v17.toInt) (b := v19.toInt) d_TrustDeskModel_isWord_52 (by decide) rfl rfl (fun b20 => ?_) (fun b20 => ?_)
            · refine mv_iinc (v := (i2_10 + 1)) (lv' := [(2, .int (i2_10 + 1)), (0, .ref o0), (1, .ref 44)]) d_TrustDeskModel_isWord_57 rfl rfl (by decide) rfl ?_
              refine mv_goto (tgt := 28) d_TrustDeskModel_isWord_60 (by decide) ?_
              have b21 : (i2_10 + 1).toInt = i2_10.toInt + 1 := mz_addn 1 1 (by decide) (by have := mz_lo i2_10; omega) (by have := mz_hi i2_10; omega)
              exact (ih10 (i2_10 + 1) T_10 M_10 n_10 I_10 h_q0_10 (by have := kKR_10.1 15 _ _ rfl; have := kKR_10.1 16 _ _ rfl; have := kKR_10.1 19 _ _ rfl; first | omega | decide | exact fun h9 => absurd (by decide) h9) (by have := kKR_10.1 15 _ _ rfl; have := kKR_10.1 16 _ _ rfl; have := kKR_10.1 19 _ _ rfl; first | omega | decide | exact fun h9 => absurd (by decide) h9) (by have := kKR_10.1 15 _ _ rfl; have := kKR_10.1 16 _ _ rfl; have := kKR_10.1 19 _ _ rfl; first | omega | decide | exact fun h9 => absurd (by decide) h9) (by have := kKR_10.1 15 _ _ rfl; have := kKR_10.1 16 _ _ rfl; have := kKR_10.1 19 _ _ rfl; first | omega | decide | exact fun h9 => absurd (by decide) h9) kKR_10 (by have := kKR_10.1 15 _ _ rfl; have := kKR_10.1 16 _ _ rfl; have := kKR_10.1 19 _ _ rfl; omega))
            · refine mv_iconst (v := 0) d_TrustDeskModel_isWord_55 (by decide) ?_
              exact mv_iret d_TrustDeskModel_isWord_56 rfl (by decide) ⟨_, I_10, _, rfl, by decide, by decide, kKR_10, (fun h => absurd h (by decide))⟩
      exact mv_less (Nat.zero_le _) (Nat.zero_le _) (L28_10 4294967296 0 T0 M0 n0 I0 h_o0 (by have := yR.1 15 _ _ rfl; have := yR.1 16 _ _ rfl; have := yR.1 19 _ _ rfl; first | omega | decide | exact fun h9 => absurd (by decide) h9) (by have := yR.1 15 _ _ rfl; have := yR.1 16 _ _ rfl; have := yR.1 19 _ _ rfl; first | omega | decide | exact fun h9 => absurd (by decide) h9) (by have := yR.1 15 _ _ rfl; have := yR.1 16 _ _ rfl; have := yR.1 19 _ _ rfl; first | omega | decide | exact fun h9 => absurd (by decide) h9) (by have := yR.1 15 _ _ rfl; have := yR.1 16 _ _ rfl; have := yR.1 19 _ _ rfl; first | omega | decide | exact fun h9 => absurd (by decide) h9) yR (by show (2147483647 - (0 : Int) : Int) < _; decide))
    · refine mv_iconst (v := 0) d_TrustDeskModel_isWord_24 (by decide) ?_
      exact mv_iret d_TrustDeskModel_isWord_25 rfl (by decide) ⟨_, I0, _, rfl, by decide, by decide, yR, (fun h => absurd h (by decide))⟩
theorem d_TrustDeskModel_readClause_29 : decode kY_TrustDeskModel_readClause.2.1 29 = .ok (.ifCond .ne 11, 3) := by decide +kernel
theorem d_TrustDeskModel_readClause_32 : decode kY_TrustDeskModel_readClause.2.1 32 = .ok (.aload_n 0, 1) := by decide +kernel
theorem d_TrustDeskModel_readClause_33 : decode kY_TrustDeskModel_readClause.2.1 33 = .ok (.iconst 1, 1) := by decide +kernel
theorem d_TrustDeskModel_readClause_34 : decode kY_TrustDeskModel_readClause.2.1 34 = .ok (.invokevirtual 240, 3) := by decide +kernel
theorem d_TrustDeskModel_readClause_37 : decode kY_TrustDeskModel_readClause.2.1 37 = .ok (.goto 33, 3) := by decide +kernel
def w_TrustDeskModel_readClause_x : List Nat := [1315, 1316, 1317, 1318, 1319, 1320, 1322, 1324, 20004, 20005, 20006, 20007, 20008, 20009, 20010, 20011, 20012, 20025, 20026]
set_option maxHeartbeats 100000000 in theorem tc_TrustDeskModel_readClause_x {g : mj_G} {l : Launch} {d : Nat} {T0 : tm_H} {M0 : mj_M} {n0 x9 : Nat} {o0 : Nat} (h_o0 : T0 o0 = some (0, 13, 0)) (yR : rI M0 o0) (yWW : rW M0 o0) (yw : rv M0 o0 19 = 0) (yo : rv M0 o0 17 ≠ 0) (yq : rv M0 o0 22 = 0) (ym : ra M0 o0 6 44 ≤ 12) (I0 : tm_I tm_FT (tm_in w_TrustDeskModel_readClause_x) x9 T0 M0 n0 T0 M0 n0) : mj_Met g l kY_TrustDeskModel_readClause (d + 26) [.ref o0] M0 n0 0 0 (tm_Q tm_FT (tm_in w_TrustDeskModel_readClause_x) x9 T0 M0 n0 (fun r _ M => r = none ∧ rI M o0 ∧ (rW M o0) ∧ (rO M0 M o0) ∧ (rv M0 o0 16 ≤ rv M o0 16 ∧ (rv M o0 19 = 0 → rv M0 o0 16 < rv M o0 16)) ∧ (rv M o0 19 = 0 → rv M o0 22 = 0) ∧ (rwE M0 o0 → rv M o0 19 = 0 → ra M o0 7 (880 + ra M0 o0 6 44).toNat = 8 ∧ ra M o0 6 44 = ra M0 o0 6 44 + 1) ∧ (ra M o0 6 44 ≤ 12))) := by
  refine mj_enter (by decide) (Nat.le_of_ble_eq_true rfl) ?_
  have yT := yWW.1
  have yS : rv M0 o0 19 = 0 → ra M0 o0 5 44 ≤ rv M0 o0 16 := fun h9 => (yWW.2 h9).1
  have yG := (yWW.2 yw).2
  have yN := yG.2.2
  have := yR.2 6 _ _ rfl 44
  have yE0 := rE.rf yT
  have K1 : rK M0 M0 o0 ((880 + ra M0 o0 6 44).toNat) := rK.rf
  have K2 : nN M0 o0 := yN
  refine mv_aload_n d_TrustDeskModel_readClause_0 rfl rfl ?_
  refine mv_ldcSw (id := 42) (tx := "end") d_TrustDeskModel_readClause_1 (List.mem_of_getElem? (i := 32) rfl) ?_
  obtain ⟨_, b9, -⟩ := I0.1 _ _ h_o0
  refine mv_callV (kc' := 0) (ks' := 0) (As := [.ref 42]) (st9 := [.ref 42, .ref o0]) d_TrustDeskModel_readClause_4 lV_TrustDeskModel_244 b9 rfl (tc_TrustDeskModel_isWord_s1_42_x (d := (d + 21)) (x9 := x9) (o0 := o0) h_o0 yR I0.start) rfl (Nat.le_of_ble_eq_true rfl) (Nat.le_of_ble_eq_true rfl) (Nat.le_of_ble_eq_true rfl) (hst := rfl) (fun b3r M4 n5 b3 => ?_)
  obtain ⟨T6, J7, v10, rfl, b11, b12, R13, f14, f15, f16⟩ := b3
  have I8 := I0.call J7 (tm_sub (by decide)) (Or.inl rfl)
  have t17 := J7.up h_o0
  replace f14 := Im.i f14
  replace f15 := Im.i f15
  replace f16 := Im.i f16
  have z18 := (rv_c I0 J7 (I0.up h_o0) (k := 15) rfl)
  have z19 := (rv_c I0 J7 (I0.up h_o0) (k := 16) rfl)
  have z20 := (rv_c I0 J7 (I0.up h_o0) (k := 17) rfl)
  have z21 := (rv_c I0 J7 (I0.up h_o0) (k := 19) rfl)
  have z22 := (rv_c I0 J7 (I0.up h_o0) (k := 22) rfl)
  have z23 := (rv_c I0 J7 (I0.up h_o0) (k := 24) rfl)
  have z24 := (ra_call I0 J7 (I0.up h_o0) (k := 5) rfl rfl rfl 44)
  have z25 := (ra_call I0 J7 (I0.up h_o0) (k := 6) rfl rfl rfl 44)
  have E26 : rE M0 M4 o0 0 0 := yE0.same (rE_hv I0 J7 (I0.up h_o0) 15 19 (by decide)) (rE_ha I0 J7 (I0.up h_o0) (by decide))
  have K27 : rK M0 M4 o0 ((880 + ra M0 o0 6 44).toNat) := K1.same (sA_c I0 J7 (I0.up h_o0) (by decide))
  have K28 : nN M4 o0 := K2.same (sA_c I0 J7 (I0.up h_o0) (by decide)) (sF_c I0 J7 (I0.up h_o0) (by decide))
  refine mv_istore_n (lv' := [(1, .int v10), (0, .ref o0)]) d_TrustDeskModel_readClause_7 rfl (by decide) rfl ?_
  refine mv_iload_n d_TrustDeskModel_readClause_8 rfl rfl ?_
  have := mz_hi v10
  refine mv_if_neZ (tgt := 40) (a := v10.toInt) d_TrustDeskModel_readClause_9 (by decide) rfl (fun b29 => ?_) (fun b29 => ?_)
  · refine mv_aload_n d_TrustDeskModel_readClause_40 rfl rfl ?_
    obtain ⟨a31, q30, t_a31⟩ := tm_atR I8 t17 (k := 6) rfl
    refine tr_getK q30 d_TrustDeskModel_readClause_41 f_TrustDeskModel_23_13 ?_
    refine mv_bipush (v := 44) d_TrustDeskModel_readClause_44 (by decide) ?_
    refine tr_ialdR (o := o0) (k := 6) I8 q30 t_a31 (by decide) d_TrustDeskModel_readClause_46 (by unfold vp_in; decide) (fun v32 e33 => ?_)
    have := R13.a (k := 6) rfl (44 : Int32).toNatClampNeg
    have : v32.toInt = ra M4 o0 6 44 := e33
    have : v32.toInt = _ := Eq.trans e33 z25
    refine mv_bipush (v := 12) d_TrustDeskModel_readClause_47 (by decide) ?_
    have := mz_hi v32
    refine mv_icmp_eqZ (tgt := 65) (a := v32.toInt) (b := 12) d_TrustDeskModel_readClause_49 (by decide) rfl (by decide) (fun b34 => ?_) (fun b34 => ?_)
    · refine mv_aload_n d_TrustDeskModel_readClause_65 rfl rfl ?_
      refine mv_iconst (v := 4) d_TrustDeskModel_readClause_66 (by decide) ?_
      obtain ⟨_, b41, -⟩ := I8.1 _ _ t17
      have : (4 : Int32).toInt = 4 := by decide
      refine mv_callV (kc' := 0) (ks' := 0) (As := [.int 4]) (st9 := [.int 4, .ref o0]) d_TrustDeskModel_readClause_67 lV_TrustDeskModel_240 b41 rfl (tc_TrustDeskModel_fails_x (d := (d + 25)) (x9 := x9) (o0 := o0) (x1 := 4) t17 R13 (by decide) I8.start) rfl (Nat.le_of_ble_eq_true rfl) (Nat.le_of_ble_eq_true rfl) (Nat.le_of_ble_eq_true rfl) (hst := rfl) (fun b35r M36 n37 b35 => ?_)
      obtain ⟨T38, J39, rfl, R42, f43⟩ := b35
      have I40 := I8.call J39 (tm_sub (by decide)) (Or.inl rfl)
      have t44 := J39.up t17
      have z45 := (rv_c I8 J39 (I8.up h_o0) (k := 15) rfl).trans z18
      have z46 := (rv_c I8 J39 (I8.up h_o0) (k := 16) rfl).trans z19
      have z47 := (rv_c I8 J39 (I8.up h_o0) (k := 17) rfl).trans z20
      have z48 := (rv_c I8 J39 (I8.up h_o0) (k := 22) rfl).trans z22
      have z49 := (rv_c I8 J39 (I8.up h_o0) (k := 24) rfl).trans z23
      have z50 := (ra_call I8 J39 (I8.up h_o0) (k := 5) rfl rfl rfl 44).trans z24
      have z51 := (ra_call I8 J39 (I8.up h_o0) (k := 6) rfl rfl rfl 44).trans z25
      have E52 : rE M0 M36 o0 0 0 := E26.fails (rE_hv I8 J39 (I8.up h_o0) 15 18 (by decide)) (rE_ha I8 J39 (I8.up h_o0) (by decide)) f43 0 0
      have K53 : rK M0 M36 o0 ((880 + ra M0 o0 6 44).toNat) := K27.same (sA_c I8 J39 (I8.up h_o0) (by decide))
      have K54 : nN M36 o0 := K28.same (sA_c I8 J39 (I8.up h_o0) (by decide)) (sF_c I8 J39 (I8.up h_o0) (by decide))
      clear z18 z19 z20 z22 z23 z24 z25
      have q55 := J39.keep t17 (by decide) q30
      have t56 := J39.up t_a31
      refine mv_aload_n d_TrustDeskModel_readClause_70 rfl rfl ?_
      obtain ⟨_, b57, -⟩ := I40.1 _ _ t44
      refine mv_callV (kc1 := 0) (ks1 := 0) (kc' := 0) (ks' := 0) (As := []) (st9 := [.ref o0]) d_TrustDeskModel_readClause_71 lV_TrustDeskModel_230 b57 rfl (mj_enter (by decide) (Nat.le_of_ble_eq_true rfl) ?_) rfl (Nat.le_of_ble_eq_true rfl) (Nat.le_of_ble_eq_true rfl) (Nat.le_of_ble_eq_true rfl) (hst := rfl) (fun _ _ _ h => h)
      refine mv_aload_n d_TrustDeskModel_isWell_0 rfl rfl ?_
      obtain ⟨v59, q58⟩ := tm_atI I40 t44 (k := 19) rfl
      refine tr_getK q58 d_TrustDeskModel_isWell_1 f_TrustDeskModel_224_13 ?_
      have := R42.f (k := 19) q58 rfl
      have := tm_rv q58
      refine mv_if_neZ (tgt := 11) (a := v59.toInt) d_TrustDeskModel_isWell_4 (by decide) rfl (fun b60 => ?_) (fun b60 => ?_)
      · refine mv_iconst (v := 0) d_TrustDeskModel_isWell_11 (by decide) ?_
        refine mv_iret d_TrustDeskModel_isWell_12 rfl (by decide) ?_
        refine mv_if_ne_f (tgt := 78) d_TrustDeskModel_readClause_74 (by decide) (by decide) ?_
        exact mv_vret d_TrustDeskModel_readClause_77 rfl ⟨_, I40, rfl, R42, (rW.of E52.1 (fun h9 => absurd h9 (by have := R42.1 15 _ _ rfl; have := R42.1 16 _ _ rfl; have := R42.1 19 _ _ rfl; omega)) (fun h9 => absurd h9 (by have := R42.1 15 _ _ rfl; have := R42.1 16 _ _ rfl; have := R42.1 19 _ _ rfl; omega))), (rO.of E52 K53 (by have := yR.2 6 _ _ rfl 44; omega)), ⟨E52.2.1, fun w9 => by skip; have := E52.w2 w9; omega⟩, (fun w9 => by skip; omega), (fun _ h9 => absurd h9 (by have := R42.1 15 _ _ rfl; have := R42.1 16 _ _ rfl; have := R42.1 19 _ _ rfl; omega)), (by have := R42.1 15 _ _ rfl; have := R42.1 16 _ _ rfl; have := R42.1 19 _ _ rfl; omega)⟩
      · exfalso
        have := R42.1 15 _ _ rfl; have := R42.1 16 _ _ rfl; have := R42.1 19 _ _ rfl; omega
    · refine mv_iload_n d_TrustDeskModel_readClause_52 rfl rfl ?_
      have := mz_hi v10
      refine mv_if_eqZ (tgt := 70) (a := v10.toInt) d_TrustDeskModel_readClause_53 (by decide) rfl (fun b61 => absurd b61 (by omega)) (fun b61 => ?_)
      refine mv_aload_n d_TrustDeskModel_readClause_56 rfl rfl ?_
      obtain ⟨v63, q62⟩ := tm_atI I8 t17 (k := 24) rfl
      refine tr_getK q62 d_TrustDeskModel_readClause_57 f_TrustDeskModel_321_13 ?_
      have := R13.f (k := 24) q62 rfl
      have := (tm_rv q62).symm.trans z23
      have := tm_rv q62
      refine mv_bipush (v := 6) d_TrustDeskModel_readClause_60 (by decide) ?_
      have := mz_hi v63
      refine mv_icmp_neZ (tgt := 70) (a := v63.toInt) (b := 6) d_TrustDeskModel_readClause_62 (by decide) rfl (by decide) (fun b64 => ?_) (fun b64 => ?_)
      · refine mv_aload_n d_TrustDeskModel_readClause_70 rfl rfl ?_
        obtain ⟨_, b65, -⟩ := I8.1 _ _ t17
        refine mv_callV (kc1 := 0) (ks1 := 0) (kc' := 0) (ks' := 0) (As := []) (st9 := [.ref o0]) d_TrustDeskModel_readClause_71 lV_TrustDeskModel_230 b65 rfl (mj_enter (by decide) (Nat.le_of_ble_eq_true rfl) ?_) rfl (Nat.le_of_ble_eq_true rfl) (Nat.le_of_ble_eq_true rfl) (Nat.le_of_ble_eq_true rfl) (hst := rfl) (fun _ _ _ h => h)
        refine mv_aload_n d_TrustDeskModel_isWell_0 rfl rfl ?_
        obtain ⟨v67, q66⟩ := tm_atI I8 t17 (k := 19) rfl
        refine tr_getK q66 d_TrustDeskModel_isWell_1 f_TrustDeskModel_224_13 ?_
        have := R13.f (k := 19) q66 rfl
        have := (tm_rv q66).symm.trans z21
        have := tm_rv q66
        have := mz_hi v67
        refine mv_if_neZ (tgt := 11) (a := v67.toInt) d_TrustDeskModel_isWell_4 (by decide) rfl (fun b68 => ?_) (fun b68 => ?_)
        · refine mv_iconst (v := 0) d_TrustDeskModel_isWell_11 (by decide) ?_
          refine mv_iret d_TrustDeskModel_isWell_12 rfl (by decide) ?_
          refine mv_if_ne_f (tgt := 78) d_TrustDeskModel_readClause_74 (by decide) (by decide) ?_
          exact mv_vret d_TrustDeskModel_readClause_77 rfl ⟨_, I8, rfl, R13, (rW.of E26.1 (E26.s yS (by decide)) (fun w9 => by skip; exact rG.step yG yR E26 w9 K27 (by have := yR.2 6 _ _ rfl 44; omega) (by have := R13.1 15 _ _ rfl; have := R13.1 16 _ _ rfl; have := R13.1 19 _ _ rfl; omega) (by have := R13.1 15 _ _ rfl; have := R13.1 16 _ _ rfl; have := R13.1 19 _ _ rfl; omega) (fun h9 => by exfalso; have := R13.1 15 _ _ rfl; have := R13.1 16 _ _ rfl; have := R13.1 19 _ _ rfl; omega) (fun h9 => (by have := R13.1 15 _ _ rfl; have := R13.1 16 _ _ rfl; have := R13.1 19 _ _ rfl; omega)) (by have := R13.1 15 _ _ rfl; have := R13.1 16 _ _ rfl; have := R13.1 19 _ _ rfl; omega) K28)), (rO.of E26 K27 (by have := yR.2 6 _ _ rfl 44; omega)), ⟨E26.2.1, fun w9 => by skip; have := E26.w2 w9; omega⟩, (fun w9 => by skip; omega), (fun _ h9 => absurd h9 (by have := R13.1 15 _ _ rfl; have := R13.1 16 _ _ rfl; have := R13.1 19 _ _ rfl; omega)), (by have := R13.1 15 _ _ rfl; have := R13.1 16 _ _ rfl; have := R13.1 19 _ _ rfl; omega)⟩
        · refine mv_iconst (v := 1) d_TrustDeskModel_isWell_7 (by decide) ?_
          refine mv_goto (tgt := 12) d_TrustDeskModel_isWell_8 (by decide) ?_
          refine mv_iret d_TrustDeskModel_isWell_12 rfl (by decide) ?_
          refine mv_if_ne_t (tgt := 78) d_TrustDeskModel_readClause_74 (by decide) (by decide) ?_
          refine mv_aload_n d_TrustDeskModel_readClause_78 rfl rfl ?_
          refine mv_ldcSw (id := 43) (tx := "mark") d_TrustDeskModel_readClause_79 (List.mem_of_getElem? (i := 33) rfl) ?_
          obtain ⟨_, b75, -⟩ := I8.1 _ _ t17
          refine mv_callV (kc' := 0) (ks' := 0) (As := [.ref 43]) (st9 := [.ref 43, .ref o0]) d_TrustDeskModel_readClause_82 lV_TrustDeskModel_244 b75 rfl (tc_TrustDeskModel_isWord_s1_43_x (d := (d + 21)) (x9 := x9) (o0 := o0) t17 R13 I8.start) rfl (Nat.le_of_ble_eq_true rfl) (Nat.le_of_ble_eq_true rfl) (Nat.le_of_ble_eq_true rfl) (hst := rfl) (fun b69r M70 n71 b69 => ?_)
          obtain ⟨T72, J73, v76, rfl, b77, b78, R79, f80⟩ := b69
          have I74 := I8.call J73 (tm_sub (by decide)) (Or.inl rfl)
          have t81 := J73.up t17
          replace f80 := Im.i f80
          have z82 := (rv_c I8 J73 (I8.up h_o0) (k := 15) rfl).trans z18
          have z83 := (rv_c I8 J73 (I8.up h_o0) (k := 16) rfl).trans z19
          have z84 := (rv_c I8 J73 (I8.up h_o0) (k := 17) rfl).trans z20
          have z85 := (rv_c I8 J73 (I8.up h_o0) (k := 19) rfl).trans z21
          have z86 := (rv_c I8 J73 (I8.up h_o0) (k := 22) rfl).trans z22
          have z87 := (rv_c I8 J73 (I8.up h_o0) (k := 24) rfl).trans z23
          have z88 := (ra_call I8 J73 (I8.up h_o0) (k := 5) rfl rfl rfl 44).trans z24
          have z89 := (ra_call I8 J73 (I8.up h_o0) (k := 6) rfl rfl rfl 44).trans z25
          have E90 : rE M0 M70 o0 0 0 := E26.same (rE_hv I8 J73 (I8.up h_o0) 15 19 (by decide)) (rE_ha I8 J73 (I8.up h_o0) (by decide))
          have K91 : rK M0 M70 o0 ((880 + ra M0 o0 6 44).toNat) := K27.same (sA_c I8 J73 (I8.up h_o0) (by decide))
          have K92 : nN M70 o0 := K28.same (sA_c I8 J73 (I8.up h_o0) (by decide)) (sF_c I8 J73 (I8.up h_o0) (by decide))
          clear z18 z19 z21 z22 z23 z24 z25
          have q93 := J73.keep t17 (by decide) q30
          have t94 := J73.up t_a31
          have q95 := J73.keep t17 (by decide) q62
          have q96 := J73.keep t17 (by decide) q66
          refine mv_istore_n (lv' := [(2, .int v76), (1, .int v10), (0, .ref o0)]) d_TrustDeskModel_readClause_85 rfl (by decide) rfl ?_
          refine mv_aload_n d_TrustDeskModel_readClause_86 rfl rfl ?_
          refine mv_iload_n d_TrustDeskModel_readClause_87 rfl rfl ?_
          have := mz_hi v10
          refine mv_if_eqZ (tgt := 96) (a := v10.toInt) d_TrustDeskModel_readClause_88 (by decide) rfl (fun b97 => absurd b97 (by omega)) (fun b97 => ?_)
          refine mv_bipush (v := 8) d_TrustDeskModel_readClause_91 (by decide) ?_
          refine mv_goto (tgt := 107) d_TrustDeskModel_readClause_93 (by decide) ?_
          obtain ⟨_, b104, -⟩ := I74.1 _ _ t81
          have : (8 : Int32).toInt = 8 := by decide
          refine mv_callV (kc' := 0) (ks' := 0) (As := [.int 8]) (st9 := [.int 8, .ref o0]) d_TrustDeskModel_readClause_107 lV_TrustDeskModel_342 b104 rfl (tc_TrustDeskModel_begin_x (d := (d + 23)) (x9 := x9) (o0 := o0) (x1 := 8) t81 R79 E90.1 (E90.s yS (by decide)) (by have := R79.1 15 _ _ rfl; have := R79.1 16 _ _ rfl; have := R79.1 19 _ _ rfl; omega) (by have := R79.1 15 _ _ rfl; have := R79.1 16 _ _ rfl; have := R79.1 19 _ _ rfl; omega) (by have := R79.1 15 _ _ rfl; have := R79.1 16 _ _ rfl; have := R79.1 19 _ _ rfl; omega) I74.start) rfl (Nat.le_of_ble_eq_true rfl) (Nat.le_of_ble_eq_true rfl) (Nat.le_of_ble_eq_true rfl) (hst := rfl) (fun b98r M99 n100 b98 => ?_)
          obtain ⟨T101, J102, v105, rfl, R106, f107, f108, f109, f110, f111, f112⟩ := b98
          have I103 := I74.call J102 (tm_sub (by decide)) (Or.inl rfl)
          have t113 := J102.up t81
          have := f107.2.1
          have f114 := Im.i f107.w.2
          have f115 := Im.i f107.w2
          have z116 := (rv_c I74 J102 (I74.up h_o0) (k := 19) rfl).trans z85
          have z117 := (rv_c I74 J102 (I74.up h_o0) (k := 22) rfl).trans z86
          have z118 := (rv_c I74 J102 (I74.up h_o0) (k := 24) rfl).trans z87
          have z119 := (ra_call I74 J102 (I74.up h_o0) (k := 5) rfl rfl rfl 44).trans z88
          have E120 : rE M0 M99 o0 0 1 := E90.trans f107 (by decide) (yR.2 5 _ _ rfl 44).1 (by decide) (by decide)
          have h121 : (880 + ra M70 o0 6 44).toNat = (880 + ra M0 o0 6 44).toNat := by omega
          rw [h121] at f110 f111 f112
          have K122 : rK M0 M99 o0 ((880 + ra M0 o0 6 44).toNat) := K91.trans f112
          have K123 : nN M99 o0 := K92.same (sA_c I74 J102 (I74.up h_o0) (by decide)) (sF_c I74 J102 (I74.up h_o0) (by decide))
          clear z85 z86 z87
          have q124 := J102.keep t81 (by decide) q93
          have t125 := J102.up t94
          have q126 := J102.keep t81 (by decide) q95
          have q127 := J102.keep t81 (by decide) q96
          refine mv_istore_n (lv' := [(3, .int v105), (2, .int v76), (1, .int v10), (0, .ref o0)]) d_TrustDeskModel_readClause_110 rfl (by decide) rfl ?_
          refine mv_iload_n d_TrustDeskModel_readClause_111 rfl rfl ?_
          have := mz_hi v10
          refine mv_if_eqZ (tgt := 123) (a := v10.toInt) d_TrustDeskModel_readClause_112 (by decide) rfl (fun b128 => absurd b128 (by omega)) (fun b128 => ?_)
          refine mv_aload_n d_TrustDeskModel_readClause_115 rfl rfl ?_
          refine mv_iload_n d_TrustDeskModel_readClause_116 rfl rfl ?_
          obtain ⟨_, b135, -⟩ := I103.1 _ _ t113
          refine mv_callV (kc' := 0) (ks' := 0) (As := [.int v105]) (st9 := [.int v105, .ref o0]) d_TrustDeskModel_readClause_117 lV_TrustDeskModel_345 b135 rfl (tc_TrustDeskModel_readEnd_x (d := d) (x9 := x9) (o0 := o0) (x1 := v105) t113 R106 E120.1 (E120.s yS (by decide)) (by have := R106.1 15 _ _ rfl; have := R106.1 16 _ _ rfl; have := R106.1 19 _ _ rfl; omega) (by have := R106.1 15 _ _ rfl; have := R106.1 16 _ _ rfl; have := R106.1 19 _ _ rfl; omega) (by have := R106.1 15 _ _ rfl; have := R106.1 16 _ _ rfl; have := R106.1 19 _ _ rfl; omega) K123 (by have := R106.1 15 _ _ rfl; have := R106.1 16 _ _ rfl; have := R106.1 19 _ _ rfl; omega) I103.start) rfl (Nat.le_of_ble_eq_true rfl) (Nat.le_of_ble_eq_true rfl) (Nat.le_of_ble_eq_true rfl) (hst := rfl) (fun b129r M130 n131 b129 => ?_)
          obtain ⟨T132, J133, rfl, R136, f137, f138, f139, f140, f141, f142⟩ := b129
          have I134 := I103.call J133 (tm_sub (by decide)) (Or.inl rfl)
          have t143 := J133.up t113
          have := f137.2.1
          have f144 := Im.i f137.w.2
          have f145 := Im.i f137.w2
          replace f140 := Im.i f140
          replace f142 := Im.i f142
          have z146 := (ra_call I103 J133 (I103.up h_o0) (k := 6) rfl rfl rfl 44)
          have z147 := (ra_call I103 J133 (I103.up h_o0) (k := 7) rfl rfl rfl ((880 + ra M0 o0 6 44).toNat))
          have z148 := (ra_call I103 J133 (I103.up h_o0) (k := 10) rfl rfl rfl ((880 + ra M0 o0 6 44).toNat))
          have E149 : rE M0 M130 o0 2 1 := E120.trans f137 (by decide) (yR.2 5 _ _ rfl 44).1 (by decide) (by decide)
          have h150 : v105.toNatClampNeg = (880 + ra M0 o0 6 44).toNat := by have := mz_nat9 (i := v105) (by have := R106.1 15 _ _ rfl; have := R106.1 16 _ _ rfl; have := R106.1 19 _ _ rfl; omega); have := R106.1 15 _ _ rfl; have := R106.1 16 _ _ rfl; have := R106.1 19 _ _ rfl; omega
          rw [h150] at f138 f140 f142
          have K151 : rK M0 M130 o0 ((880 + ra M0 o0 6 44).toNat) := K122.trans f138
          have K152 : nN M130 o0 := f139
          have K153 : rv M130 o0 19 = 0 → rD M99 M130 o0 (880 + ra M0 o0 6 44).toNat := f142
          have q154 := J133.keep t113 (by decide) q124
          have t155 := J133.up t125
          refine mv_goto (tgt := 165) d_TrustDeskModel_readClause_120 (by decide) ?_
          refine mv_aload_n d_TrustDeskModel_readClause_165 rfl rfl ?_
          refine mv_bipush (v := 59) d_TrustDeskModel_readClause_166 (by decide) ?_
          obtain ⟨_, b162, -⟩ := I134.1 _ _ t143
          have : (59 : Int32).toInt = 59 := by decide
          refine mv_callV (kc' := 0) (ks' := 0) (As := [.int 59]) (st9 := [.int 59, .ref o0]) d_TrustDeskModel_readClause_168 lV_TrustDeskModel_291 b162 rfl (tc_TrustDeskModel_wantSign_x (d := (d + 23)) (x9 := x9) (o0 := o0) (x1 := 59) t143 R136 E149.1 (E149.s yS (by decide)) I134.start) rfl (Nat.le_of_ble_eq_true rfl) (Nat.le_of_ble_eq_true rfl) (Nat.le_of_ble_eq_true rfl) (hst := rfl) (fun b156r M157 n158 b156 => ?_)
          obtain ⟨T159, J160, rfl, R163, f164⟩ := b156
          have I161 := I134.call J160 (tm_sub (by decide)) (Or.inl rfl)
          have t165 := J160.up t143
          have := f164.2.1
          have f166 := Im.i f164.w.2
          have f167 := Im.i f164.w2
          have z168 := (rv_c I134 J160 (I134.up h_o0) (k := 22) rfl)
          have z169 := (rv_c I134 J160 (I134.up h_o0) (k := 24) rfl)
          have z170 := (ra_call I134 J160 (I134.up h_o0) (k := 5) rfl rfl rfl 44)
          have z171 := (ra_call I134 J160 (I134.up h_o0) (k := 6) rfl rfl rfl 44).trans z146
          have z172 := (ra_call I134 J160 (I134.up h_o0) (k := 7) rfl rfl rfl ((880 + ra M0 o0 6 44).toNat)).trans z147
          have z173 := (ra_call I134 J160 (I134.up h_o0) (k := 10) rfl rfl rfl ((880 + ra M0 o0 6 44).toNat)).trans z148
          have z174 := (ra_call I134 J160 (I134.up h_o0) (k := 8) rfl rfl rfl ((880 + ra M0 o0 6 44).toNat))
          have E175 : rE M0 M157 o0 2 2 := E149.trans f164 (by decide) (yR.2 5 _ _ rfl 44).1 (by decide) (by decide)
          have K176 : rK M0 M157 o0 ((880 + ra M0 o0 6 44).toNat) := K151.same (sA_c I134 J160 (I134.up h_o0) (by decide))
          have K177 : nN M157 o0 := K152.same (sA_c I134 J160 (I134.up h_o0) (by decide)) (sF_c I134 J160 (I134.up h_o0) (by decide))
          have K178 : rv M157 o0 19 = 0 → rD M99 M157 o0 (880 + ra M0 o0 6 44).toNat := (fun w9 => (K153 (f164.w.2 w9)).same (sA_c I134 J160 (I134.up h_o0) (by decide)))
          clear z146 z147 z148
          have q179 := J160.keep t143 (by decide) q154
          have t180 := J160.up t155
          refine mv_aload_n d_TrustDeskModel_readClause_171 rfl rfl ?_
          obtain ⟨a182, q181, t_a182⟩ := tm_atR I161 t165 (k := 12) rfl
          refine tr_getK q181 d_TrustDeskModel_readClause_172 f_TrustDeskModel_41_13 ?_
          refine mv_iload_n d_TrustDeskModel_readClause_175 rfl rfl ?_
          refine mv_aload_n d_TrustDeskModel_readClause_176 rfl rfl ?_
          obtain ⟨a184, q183, t_a184⟩ := tm_atR I161 t165 (k := 5) rfl
          refine tr_getK q183 d_TrustDeskModel_readClause_177 f_TrustDeskModel_20_13 ?_
          refine mv_bipush (v := 44) d_TrustDeskModel_readClause_180 (by decide) ?_
          refine tr_ialdR (o := o0) (k := 5) I161 q183 t_a184 (by decide) d_TrustDeskModel_readClause_182 (by unfold vp_in; decide) (fun v185 e186 => ?_)
          have := R163.a (k := 5) rfl (44 : Int32).toNatClampNeg
          have : v185.toInt = ra M157 o0 5 44 := e186
          have : v185.toInt = _ := Eq.trans e186 z170
          refine tr_iastR (k := 12) I161 R163 (I161.up h_o0) q181 t_a182 (by decide) (by decide) (fun lo hi h => by cases h; have := R163.1 15 _ _ rfl; have := R163.1 16 _ _ rfl; have := R163.1 19 _ _ rfl; exact ⟨by show (0 : Int) ≤ v185.toInt; omega, by show v185.toInt ≤ (400 : Int); omega⟩) (Or.inl (by decide)) d_TrustDeskModel_readClause_183 (vp_in_iff.mpr (by have := R163.1 15 _ _ rfl; have := R163.1 16 _ _ rfl; have := R163.1 19 _ _ rfl; omega)) (fun M187 I188 K189 R190 E191 A192 V193 => ?_)
          have z194 := (V193 15)
          have z195 := (V193 16)
          have z196 := (V193 17)
          have z197 := (V193 19)
          have z198 := (V193 22).trans z168
          have z199 := (V193 24).trans z169
          have z200 := (A192 5 (by decide) rfl 44).trans z170
          have z201 := (A192 6 (by decide) rfl 44).trans z171
          have z202 := (A192 7 (by decide) rfl ((880 + ra M0 o0 6 44).toNat)).trans z172
          have z203 := (A192 10 (by decide) rfl ((880 + ra M0 o0 6 44).toNat)).trans z173
          have z204 := (A192 8 (by decide) rfl ((880 + ra M0 o0 6 44).toNat)).trans z174
          have E205 : rE M0 M187 o0 2 2 := E175.same (fun k _ _ => V193 k) (fun k h1 h2 => A192 k (by omega) (by rcases (show k = 4 ∨ k = 5 by omega) with rfl | rfl <;> rfl))
          have h206 : (880 + ra M0 o0 6 44).toNat = v105.toNatClampNeg := by have := mz_nat9 (i := v105) (by have := R163.1 15 _ _ rfl; have := R163.1 16 _ _ rfl; have := R163.1 19 _ _ rfl; omega); have := R163.1 15 _ _ rfl; have := R163.1 16 _ _ rfl; have := R163.1 19 _ _ rfl; omega
          have z207 : ra M187 o0 12 ((880 + ra M0 o0 6 44).toNat) = v185.toInt := (E191 _).trans (if_pos h206)
          have K208 : rK M0 M187 o0 ((880 + ra M0 o0 6 44).toNat) := K176.st A192 E191 (by have := mz_nat9 (i := v105) (by have := R163.1 15 _ _ rfl; have := R163.1 16 _ _ rfl; have := R163.1 19 _ _ rfl; omega); have := R163.1 15 _ _ rfl; have := R163.1 16 _ _ rfl; have := R163.1 19 _ _ rfl; omega)
          have K209 : nN M187 o0 := K177.same (sA_a A192 (by decide)) (sF_a V193)
          have K210 : rv M187 o0 19 = 0 → rD M99 M187 o0 (880 + ra M0 o0 6 44).toNat := (fun w9 => (K178 (by have e9 := ((sF_a V193) : sF [19] _ _ _) 19 rfl; rw [← e9]; exact w9)).same (sA_a A192 (by decide)))
          clear z168 z169 z170 z171 z172 z173 z174
          exact mv_vret d_TrustDeskModel_readClause_184 rfl ⟨_, I188, rfl, R190, (rW.of E205.1 (E205.s yS (by decide)) (fun w9 => by have u91 : rv M157 o0 19 = 0 := (by omega); have := f166.o u91; have := f167.o u91; have u92 : rv M130 o0 19 = 0 := (by omega); have := f144.o u92; have := f145.o u92; have := f140.o u92; have := f142.o u92; have u93 : rv M99 o0 19 = 0 := (by omega); have := f114.o u93; have := f115.o u93; exact rG.step yG yR E205 w9 K208 (by have := yR.2 6 _ _ rfl 44; omega) (by have := R190.1 15 _ _ rfl; have := R190.1 16 _ _ rfl; have := R190.1 19 _ _ rfl; omega) (by have := R190.1 15 _ _ rfl; have := R190.1 16 _ _ rfl; have := R190.1 19 _ _ rfl; omega) (fun _ => rowN.ofD (K210 w9) (by have := R190.1 15 _ _ rfl; have := R190.1 16 _ _ rfl; have := R190.1 19 _ _ rfl; omega) (by have := R190.1 15 _ _ rfl; have := R190.1 16 _ _ rfl; have := R190.1 19 _ _ rfl; omega)) (fun h9 => (by have := R190.1 15 _ _ rfl; have := R190.1 16 _ _ rfl; have := R190.1 19 _ _ rfl; omega)) (by have := R190.1 15 _ _ rfl; have := R190.1 16 _ _ rfl; have := R190.1 19 _ _ rfl; omega) K209)), (rO.of E205 K208 (by have := yR.2 6 _ _ rfl 44; omega)), ⟨E205.2.1, fun w9 => by skip; have := E205.w2 w9; omega⟩, (fun w9 => by have u91 : rv M157 o0 19 = 0 := (by omega); have := f166.o u91; have := f167.o u91; have u92 : rv M130 o0 19 = 0 := (by omega); have := f144.o u92; have := f145.o u92; have := f140.o u92; have := f142.o u92; have u93 : rv M99 o0 19 = 0 := (by omega); have := f114.o u93; have := f115.o u93; omega), (fun _ w9 => by have u91 : rv M157 o0 19 = 0 := (by omega); have := f166.o u91; have := f167.o u91; have u92 : rv M130 o0 19 = 0 := (by omega); have := f144.o u92; have := f145.o u92; have := f140.o u92; have := f142.o u92; have u93 : rv M99 o0 19 = 0 := (by omega); have := f114.o u93; have := f115.o u93; exact ⟨(by have := R190.1 15 _ _ rfl; have := R190.1 16 _ _ rfl; have := R190.1 19 _ _ rfl; omega), (by have := R190.1 15 _ _ rfl; have := R190.1 16 _ _ rfl; have := R190.1 19 _ _ rfl; omega)⟩), (by have := R190.1 15 _ _ rfl; have := R190.1 16 _ _ rfl; have := R190.1 19 _ _ rfl; omega)⟩
      · refine mv_aload_n d_TrustDeskModel_readClause_65 rfl rfl ?_
        refine mv_iconst (v := 4) d_TrustDeskModel_readClause_66 (by decide) ?_
        obtain ⟨_, b217, -⟩ := I8.1 _ _ t17
        have : (4 : Int32).toInt = 4 := by decide
        refine mv_callV (kc' := 0) (ks' := 0) (As := [.int 4]) (st9 := [.int 4, .ref o0]) d_TrustDeskModel_readClause_67 lV_TrustDeskModel_240 b217 rfl (tc_TrustDeskModel_fails_x (d := (d + 25)) (x9 := x9) (o0 := o0) (x1 := 4) t17 R13 (by decide) I8.start) rfl (Nat.le_of_ble_eq_true rfl) (Nat.le_of_ble_eq_true rfl) (Nat.le_of_ble_eq_true rfl) (hst := rfl) (fun b211r M212 n213 b211 => ?_)
        obtain ⟨T214, J215, rfl, R218, f219⟩ := b211
        have I216 := I8.call J215 (tm_sub (by decide)) (Or.inl rfl)
        have t220 := J215.up t17
        have z221 := (rv_c I8 J215 (I8.up h_o0) (k := 15) rfl).trans z18
        have z222 := (rv_c I8 J215 (I8.up h_o0) (k := 16) rfl).trans z19
        have z223 := (rv_c I8 J215 (I8.up h_o0) (k := 17) rfl).trans z20
        have z224 := (rv_c I8 J215 (I8.up h_o0) (k := 22) rfl).trans z22
        have z225 := (rv_c I8 J215 (I8.up h_o0) (k := 24) rfl).trans z23
        have z226 := (ra_call I8 J215 (I8.up h_o0) (k := 5) rfl rfl rfl 44).trans z24
        have z227 := (ra_call I8 J215 (I8.up h_o0) (k := 6) rfl rfl rfl 44).trans z25
        have E228 : rE M0 M212 o0 0 0 := E26.fails (rE_hv I8 J215 (I8.up h_o0) 15 18 (by decide)) (rE_ha I8 J215 (I8.up h_o0) (by decide)) f219 0 0
        have K229 : rK M0 M212 o0 ((880 + ra M0 o0 6 44).toNat) := K27.same (sA_c I8 J215 (I8.up h_o0) (by decide))
        have K230 : nN M212 o0 := K28.same (sA_c I8 J215 (I8.up h_o0) (by decide)) (sF_c I8 J215 (I8.up h_o0) (by decide))
        clear z18 z19 z20 z22 z23 z24 z25
        have q231 := J215.keep t17 (by decide) q30
        have t232 := J215.up t_a31
        have q233 := J215.keep t17 (by decide) q62
        refine mv_aload_n d_TrustDeskModel_readClause_70 rfl rfl ?_
        obtain ⟨_, b234, -⟩ := I216.1 _ _ t220
        refine mv_callV (kc1 := 0) (ks1 := 0) (kc' := 0) (ks' := 0) (As := []) (st9 := [.ref o0]) d_TrustDeskModel_readClause_71 lV_TrustDeskModel_230 b234 rfl (mj_enter (by decide) (Nat.le_of_ble_eq_true rfl) ?_) rfl (Nat.le_of_ble_eq_true rfl) (Nat.le_of_ble_eq_true rfl) (Nat.le_of_ble_eq_true rfl) (hst := rfl) (fun _ _ _ h => h)
        refine mv_aload_n d_TrustDeskModel_isWell_0 rfl rfl ?_
        obtain ⟨v236, q235⟩ := tm_atI I216 t220 (k := 19) rfl
        refine tr_getK q235 d_TrustDeskModel_isWell_1 f_TrustDeskModel_224_13 ?_
        have := R218.f (k := 19) q235 rfl
        have := tm_rv q235
        refine mv_if_neZ (tgt := 11) (a := v236.toInt) d_TrustDeskModel_isWell_4 (by decide) rfl (fun b237 => ?_) (fun b237 => ?_)
        · refine mv_iconst (v := 0) d_TrustDeskModel_isWell_11 (by decide) ?_
          refine mv_iret d_TrustDeskModel_isWell_12 rfl (by decide) ?_
          refine mv_if_ne_f (tgt := 78) d_TrustDeskModel_readClause_74 (by decide) (by decide) ?_
          exact mv_vret d_TrustDeskModel_readClause_77 rfl ⟨_, I216, rfl, R218, (rW.of E228.1 (fun h9 => absurd h9 (by have := R218.1 15 _ _ rfl; have := R218.1 16 _ _ rfl; have := R218.1 19 _ _ rfl; omega)) (fun h9 => absurd h9 (by have := R218.1 15 _ _ rfl; have := R218.1 16 _ _ rfl; have := R218.1 19 _ _ rfl; omega))), (rO.of E228 K229 (by have := yR.2 6 _ _ rfl 44; omega)), ⟨E228.2.1, fun w9 => by skip; have := E228.w2 w9; omega⟩, (fun w9 => by skip; omega), (fun _ h9 => absurd h9 (by have := R218.1 15 _ _ rfl; have := R218.1 16 _ _ rfl; have := R218.1 19 _ _ rfl; omega)), (by have := R218.1 15 _ _ rfl; have := R218.1 16 _ _ rfl; have := R218.1 19 _ _ rfl; omega)⟩
        · exfalso
          have := R218.1 15 _ _ rfl; have := R218.1 16 _ _ rfl; have := R218.1 19 _ _ rfl; omega
  · refine mv_aload_n d_TrustDeskModel_readClause_12 rfl rfl ?_
    refine mv_ldcSw (id := 43) (tx := "mark") d_TrustDeskModel_readClause_13 (List.mem_of_getElem? (i := 33) rfl) ?_
    obtain ⟨_, b244, -⟩ := I8.1 _ _ t17
    refine mv_callV (kc' := 0) (ks' := 0) (As := [.ref 43]) (st9 := [.ref 43, .ref o0]) d_TrustDeskModel_readClause_16 lV_TrustDeskModel_244 b244 rfl (tc_TrustDeskModel_isWord_s1_43_x (d := (d + 21)) (x9 := x9) (o0 := o0) t17 R13 I8.start) rfl (Nat.le_of_ble_eq_true rfl) (Nat.le_of_ble_eq_true rfl) (Nat.le_of_ble_eq_true rfl) (hst := rfl) (fun b238r M239 n240 b238 => ?_)
    obtain ⟨T241, J242, v245, rfl, b246, b247, R248, f249⟩ := b238
    have I243 := I8.call J242 (tm_sub (by decide)) (Or.inl rfl)
    have t250 := J242.up t17
    replace f249 := Im.i f249
    have z251 := (rv_c I8 J242 (I8.up h_o0) (k := 15) rfl).trans z18
    have z252 := (rv_c I8 J242 (I8.up h_o0) (k := 16) rfl).trans z19
    have z253 := (rv_c I8 J242 (I8.up h_o0) (k := 17) rfl).trans z20
    have z254 := (rv_c I8 J242 (I8.up h_o0) (k := 19) rfl).trans z21
    have z255 := (rv_c I8 J242 (I8.up h_o0) (k := 22) rfl).trans z22
    have z256 := (rv_c I8 J242 (I8.up h_o0) (k := 24) rfl).trans z23
    have z257 := (ra_call I8 J242 (I8.up h_o0) (k := 5) rfl rfl rfl 44).trans z24
    have z258 := (ra_call I8 J242 (I8.up h_o0) (k := 6) rfl rfl rfl 44).trans z25
    have E259 : rE M0 M239 o0 0 0 := E26.same (rE_hv I8 J242 (I8.up h_o0) 15 19 (by decide)) (rE_ha I8 J242 (I8.up h_o0) (by decide))
    have K260 : rK M0 M239 o0 ((880 + ra M0 o0 6 44).toNat) := K27.same (sA_c I8 J242 (I8.up h_o0) (by decide))
    have K261 : nN M239 o0 := K28.same (sA_c I8 J242 (I8.up h_o0) (by decide)) (sF_c I8 J242 (I8.up h_o0) (by decide))
    clear z18 z19 z21 z22 z23 z24 z25
    have := mz_hi v245
    refine mv_if_neZ (tgt := 40) (a := v245.toInt) d_TrustDeskModel_readClause_19 (by decide) rfl (fun b262 => ?_) (fun b262 => ?_)
    · refine mv_aload_n d_TrustDeskModel_readClause_40 rfl rfl ?_
      obtain ⟨a264, q263, t_a264⟩ := tm_atR I243 t250 (k := 6) rfl
      refine tr_getK q263 d_TrustDeskModel_readClause_41 f_TrustDeskModel_23_13 ?_
      refine mv_bipush (v := 44) d_TrustDeskModel_readClause_44 (by decide) ?_
      refine tr_ialdR (o := o0) (k := 6) I243 q263 t_a264 (by decide) d_TrustDeskModel_readClause_46 (by unfold vp_in; decide) (fun v265 e266 => ?_)
      have := R248.a (k := 6) rfl (44 : Int32).toNatClampNeg
      have : v265.toInt = ra M239 o0 6 44 := e266
      have : v265.toInt = _ := Eq.trans e266 z258
      refine mv_bipush (v := 12) d_TrustDeskModel_readClause_47 (by decide) ?_
      have := mz_hi v265
      refine mv_icmp_eqZ (tgt := 65) (a := v265.toInt) (b := 12) d_TrustDeskModel_readClause_49 (by decide) rfl (by decide) (fun b267 => ?_) (fun b267 => ?_)
      · refine mv_aload_n d_TrustDeskModel_readClause_65 rfl rfl ?_
        refine mv_iconst (v := 4) d_TrustDeskModel_readClause_66 (by decide) ?_
        obtain ⟨_, b274, -⟩ := I243.1 _ _ t250
        have : (4 : Int32).toInt = 4 := by decide
        refine mv_callV (kc' := 0) (ks' := 0) (As := [.int 4]) (st9 := [.int 4, .ref o0]) d_TrustDeskModel_readClause_67 lV_TrustDeskModel_240 b274 rfl (tc_TrustDeskModel_fails_x (d := (d + 25)) (x9 := x9) (o0 := o0) (x1 := 4) t250 R248 (by decide) I243.start) rfl (Nat.le_of_ble_eq_true rfl) (Nat.le_of_ble_eq_true rfl) (Nat.le_of_ble_eq_true rfl) (hst := rfl) (fun b268r M269 n270 b268 => ?_)
        obtain ⟨T271, J272, rfl, R275, f276⟩ := b268
        have I273 := I243.call J272 (tm_sub (by decide)) (Or.inl rfl)
        have t277 := J272.up t250
        have z278 := (rv_c I243 J272 (I243.up h_o0) (k := 15) rfl).trans z251
        have z279 := (rv_c I243 J272 (I243.up h_o0) (k := 16) rfl).trans z252
        have z280 := (rv_c I243 J272 (I243.up h_o0) (k := 17) rfl).trans z253
        have z281 := (rv_c I243 J272 (I243.up h_o0) (k := 22) rfl).trans z255
        have z282 := (rv_c I243 J272 (I243.up h_o0) (k := 24) rfl).trans z256
        have z283 := (ra_call I243 J272 (I243.up h_o0) (k := 5) rfl rfl rfl 44).trans z257
        have z284 := (ra_call I243 J272 (I243.up h_o0) (k := 6) rfl rfl rfl 44).trans z258
        have E285 : rE M0 M269 o0 0 0 := E259.fails (rE_hv I243 J272 (I243.up h_o0) 15 18 (by decide)) (rE_ha I243 J272 (I243.up h_o0) (by decide)) f276 0 0
        have K286 : rK M0 M269 o0 ((880 + ra M0 o0 6 44).toNat) := K260.same (sA_c I243 J272 (I243.up h_o0) (by decide))
        have K287 : nN M269 o0 := K261.same (sA_c I243 J272 (I243.up h_o0) (by decide)) (sF_c I243 J272 (I243.up h_o0) (by decide))
        clear z251 z252 z253 z255 z256 z257 z258
        have q288 := J272.keep t250 (by decide) q263
        have t289 := J272.up t_a264
        refine mv_aload_n d_TrustDeskModel_readClause_70 rfl rfl ?_
        obtain ⟨_, b290, -⟩ := I273.1 _ _ t277
        refine mv_callV (kc1 := 0) (ks1 := 0) (kc' := 0) (ks' := 0) (As := []) (st9 := [.ref o0]) d_TrustDeskModel_readClause_71 lV_TrustDeskModel_230 b290 rfl (mj_enter (by decide) (Nat.le_of_ble_eq_true rfl) ?_) rfl (Nat.le_of_ble_eq_true rfl) (Nat.le_of_ble_eq_true rfl) (Nat.le_of_ble_eq_true rfl) (hst := rfl) (fun _ _ _ h => h)
        refine mv_aload_n d_TrustDeskModel_isWell_0 rfl rfl ?_
        obtain ⟨v292, q291⟩ := tm_atI I273 t277 (k := 19) rfl
        refine tr_getK q291 d_TrustDeskModel_isWell_1 f_TrustDeskModel_224_13 ?_
        have := R275.f (k := 19) q291 rfl
        have := tm_rv q291
        refine mv_if_neZ (tgt := 11) (a := v292.toInt) d_TrustDeskModel_isWell_4 (by decide) rfl (fun b293 => ?_) (fun b293 => ?_)
        · refine mv_iconst (v := 0) d_TrustDeskModel_isWell_11 (by decide) ?_
          refine mv_iret d_TrustDeskModel_isWell_12 rfl (by decide) ?_
          refine mv_if_ne_f (tgt := 78) d_TrustDeskModel_readClause_74 (by decide) (by decide) ?_
          exact mv_vret d_TrustDeskModel_readClause_77 rfl ⟨_, I273, rfl, R275, (rW.of E285.1 (fun h9 => absurd h9 (by have := R275.1 15 _ _ rfl; have := R275.1 16 _ _ rfl; have := R275.1 19 _ _ rfl; omega)) (fun h9 => absurd h9 (by have := R275.1 15 _ _ rfl; have := R275.1 16 _ _ rfl; have := R275.1 19 _ _ rfl; omega))), (rO.of E285 K286 (by have := yR.2 6 _ _ rfl 44; omega)), ⟨E285.2.1, fun w9 => by skip; have := E285.w2 w9; omega⟩, (fun w9 => by skip; omega), (fun _ h9 => absurd h9 (by have := R275.1 15 _ _ rfl; have := R275.1 16 _ _ rfl; have := R275.1 19 _ _ rfl; omega)), (by have := R275.1 15 _ _ rfl; have := R275.1 16 _ _ rfl; have := R275.1 19 _ _ rfl; omega)⟩
        · exfalso
          have := R275.1 15 _ _ rfl; have := R275.1 16 _ _ rfl; have := R275.1 19 _ _ rfl; omega
      · refine mv_iload_n d_TrustDeskModel_readClause_52 rfl rfl ?_
        have := mz_hi v10
        refine mv_if_eqZ (tgt := 70) (a := v10.toInt) d_TrustDeskModel_readClause_53 (by decide) rfl (fun b294 => ?_) (fun b294 => absurd b294 (by omega))
        refine mv_aload_n d_TrustDeskModel_readClause_70 rfl rfl ?_
        obtain ⟨_, b295, -⟩ := I243.1 _ _ t250
        refine mv_callV (kc1 := 0) (ks1 := 0) (kc' := 0) (ks' := 0) (As := []) (st9 := [.ref o0]) d_TrustDeskModel_readClause_71 lV_TrustDeskModel_230 b295 rfl (mj_enter (by decide) (Nat.le_of_ble_eq_true rfl) ?_) rfl (Nat.le_of_ble_eq_true rfl) (Nat.le_of_ble_eq_true rfl) (Nat.le_of_ble_eq_true rfl) (hst := rfl) (fun _ _ _ h => h)
        refine mv_aload_n d_TrustDeskModel_isWell_0 rfl rfl ?_
        obtain ⟨v297, q296⟩ := tm_atI I243 t250 (k := 19) rfl
        refine tr_getK q296 d_TrustDeskModel_isWell_1 f_TrustDeskModel_224_13 ?_
        have := R248.f (k := 19) q296 rfl
        have := (tm_rv q296).symm.trans z254
        have := tm_rv q296
        have := mz_hi v297
        refine mv_if_neZ (tgt := 11) (a := v297.toInt) d_TrustDeskModel_isWell_4 (by decide) rfl (fun b298 => ?_) (fun b298 => ?_)
        · refine mv_iconst (v := 0) d_TrustDeskModel_isWell_11 (by decide) ?_
          refine mv_iret d_TrustDeskModel_isWell_12 rfl (by decide) ?_
          refine mv_if_ne_f (tgt := 78) d_TrustDeskModel_readClause_74 (by decide) (by decide) ?_
          exact mv_vret d_TrustDeskModel_readClause_77 rfl ⟨_, I243, rfl, R248, (rW.of E259.1 (E259.s yS (by decide)) (fun w9 => by skip; exact rG.step yG yR E259 w9 K260 (by have := yR.2 6 _ _ rfl 44; omega) (by have := R248.1 15 _ _ rfl; have := R248.1 16 _ _ rfl; have := R248.1 19 _ _ rfl; omega) (by have := R248.1 15 _ _ rfl; have := R248.1 16 _ _ rfl; have := R248.1 19 _ _ rfl; omega) (fun h9 => by exfalso; have := R248.1 15 _ _ rfl; have := R248.1 16 _ _ rfl; have := R248.1 19 _ _ rfl; omega) (fun h9 => (by have := R248.1 15 _ _ rfl; have := R248.1 16 _ _ rfl; have := R248.1 19 _ _ rfl; omega)) (by have := R248.1 15 _ _ rfl; have := R248.1 16 _ _ rfl; have := R248.1 19 _ _ rfl; omega) K261)), (rO.of E259 K260 (by have := yR.2 6 _ _ rfl 44; omega)), ⟨E259.2.1, fun w9 => by skip; have := E259.w2 w9; omega⟩, (fun w9 => by skip; omega), (fun _ h9 => absurd h9 (by have := R248.1 15 _ _ rfl; have := R248.1 16 _ _ rfl; have := R248.1 19 _ _ rfl; omega)), (by have := R248.1 15 _ _ rfl; have := R248.1 16 _ _ rfl; have := R248.1 19 _ _ rfl; omega)⟩
        · refine mv_iconst (v := 1) d_TrustDeskModel_isWell_7 (by decide) ?_
          refine mv_goto (tgt := 12) d_TrustDeskModel_isWell_8 (by decide) ?_
          refine mv_iret d_TrustDeskModel_isWell_12 rfl (by decide) ?_
          refine mv_if_ne_t (tgt := 78) d_TrustDeskModel_readClause_74 (by decide) (by decide) ?_
          refine mv_aload_n d_TrustDeskModel_readClause_78 rfl rfl ?_
          refine mv_ldcSw (id := 43) (tx := "mark") d_TrustDeskModel_readClause_79 (List.mem_of_getElem? (i := 33) rfl) ?_
          obtain ⟨_, b305, -⟩ := I243.1 _ _ t250
          refine mv_callV (kc' := 0) (ks' := 0) (As := [.ref 43]) (st9 := [.ref 43, .ref o0]) d_TrustDeskModel_readClause_82 lV_TrustDeskModel_244 b305 rfl (tc_TrustDeskModel_isWord_s1_43_x (d := (d + 21)) (x9 := x9) (o0 := o0) t250 R248 I243.start) rfl (Nat.le_of_ble_eq_true rfl) (Nat.le_of_ble_eq_true rfl) (Nat.le_of_ble_eq_true rfl) (hst := rfl) (fun b299r M300 n301 b299 => ?_)
          obtain ⟨T302, J303, v306, rfl, b307, b308, R309, f310⟩ := b299
          have I304 := I243.call J303 (tm_sub (by decide)) (Or.inl rfl)
          have t311 := J303.up t250
          replace f310 := Im.i f310
          have z312 := (rv_c I243 J303 (I243.up h_o0) (k := 15) rfl).trans z251
          have z313 := (rv_c I243 J303 (I243.up h_o0) (k := 16) rfl).trans z252
          have z314 := (rv_c I243 J303 (I243.up h_o0) (k := 17) rfl).trans z253
          have z315 := (rv_c I243 J303 (I243.up h_o0) (k := 19) rfl).trans z254
          have z316 := (rv_c I243 J303 (I243.up h_o0) (k := 22) rfl).trans z255
          have z317 := (rv_c I243 J303 (I243.up h_o0) (k := 24) rfl).trans z256
          have z318 := (ra_call I243 J303 (I243.up h_o0) (k := 5) rfl rfl rfl 44).trans z257
          have z319 := (ra_call I243 J303 (I243.up h_o0) (k := 6) rfl rfl rfl 44).trans z258
          have E320 : rE M0 M300 o0 0 0 := E259.same (rE_hv I243 J303 (I243.up h_o0) 15 19 (by decide)) (rE_ha I243 J303 (I243.up h_o0) (by decide))
          have K321 : rK M0 M300 o0 ((880 + ra M0 o0 6 44).toNat) := K260.same (sA_c I243 J303 (I243.up h_o0) (by decide))
          have K322 : nN M300 o0 := K261.same (sA_c I243 J303 (I243.up h_o0) (by decide)) (sF_c I243 J303 (I243.up h_o0) (by decide))
          clear z251 z252 z254 z255 z256 z257 z258
          have q323 := J303.keep t250 (by decide) q263
          have t324 := J303.up t_a264
          have q325 := J303.keep t250 (by decide) q296
          refine mv_istore_n (lv' := [(2, .int v306), (1, .int v10), (0, .ref o0)]) d_TrustDeskModel_readClause_85 rfl (by decide) rfl ?_
          refine mv_aload_n d_TrustDeskModel_readClause_86 rfl rfl ?_
          refine mv_iload_n d_TrustDeskModel_readClause_87 rfl rfl ?_
          have := mz_hi v10
          refine mv_if_eqZ (tgt := 96) (a := v10.toInt) d_TrustDeskModel_readClause_88 (by decide) rfl (fun b326 => ?_) (fun b326 => absurd b326 (by omega))
          refine mv_iload_n d_TrustDeskModel_readClause_96 rfl rfl ?_
          have := mz_hi v306
          refine mv_if_eqZ (tgt := 105) (a := v306.toInt) d_TrustDeskModel_readClause_97 (by decide) rfl (fun b327 => ?_) (fun b327 => ?_)
          · refine mv_bipush (v := 9) d_TrustDeskModel_readClause_105 (by decide) ?_
            obtain ⟨_, b334, -⟩ := I304.1 _ _ t311
            have : (9 : Int32).toInt = 9 := by decide
            refine mv_callV (kc' := 0) (ks' := 0) (As := [.int 9]) (st9 := [.int 9, .ref o0]) d_TrustDeskModel_readClause_107 lV_TrustDeskModel_342 b334 rfl (tc_TrustDeskModel_begin_x (d := (d + 23)) (x9 := x9) (o0 := o0) (x1 := 9) t311 R309 E320.1 (E320.s yS (by decide)) (by have := R309.1 15 _ _ rfl; have := R309.1 16 _ _ rfl; have := R309.1 19 _ _ rfl; omega) (by have := R309.1 15 _ _ rfl; have := R309.1 16 _ _ rfl; have := R309.1 19 _ _ rfl; omega) (by have := R309.1 15 _ _ rfl; have := R309.1 16 _ _ rfl; have := R309.1 19 _ _ rfl; omega) I304.start) rfl (Nat.le_of_ble_eq_true rfl) (Nat.le_of_ble_eq_true rfl) (Nat.le_of_ble_eq_true rfl) (hst := rfl) (fun b328r M329 n330 b328 => ?_)
            obtain ⟨T331, J332, v335, rfl, R336, f337, f338, f339, f340, f341, f342⟩ := b328
            have I333 := I304.call J332 (tm_sub (by decide)) (Or.inl rfl)
            have t343 := J332.up t311
            have := f337.2.1
            have f344 := Im.i f337.w.2
            have f345 := Im.i f337.w2
            have z346 := (rv_c I304 J332 (I304.up h_o0) (k := 19) rfl).trans z315
            have z347 := (rv_c I304 J332 (I304.up h_o0) (k := 22) rfl).trans z316
            have z348 := (rv_c I304 J332 (I304.up h_o0) (k := 24) rfl).trans z317
            have z349 := (ra_call I304 J332 (I304.up h_o0) (k := 5) rfl rfl rfl 44).trans z318
            have E350 : rE M0 M329 o0 0 1 := E320.trans f337 (by decide) (yR.2 5 _ _ rfl 44).1 (by decide) (by decide)
            have h351 : (880 + ra M300 o0 6 44).toNat = (880 + ra M0 o0 6 44).toNat := by omega
            rw [h351] at f340 f341 f342
            have K352 : rK M0 M329 o0 ((880 + ra M0 o0 6 44).toNat) := K321.trans f342
            have K353 : nN M329 o0 := K322.same (sA_c I304 J332 (I304.up h_o0) (by decide)) (sF_c I304 J332 (I304.up h_o0) (by decide))
            clear z315 z316 z317
            have q354 := J332.keep t311 (by decide) q323
            have t355 := J332.up t324
            have q356 := J332.keep t311 (by decide) q325
            refine mv_istore_n (lv' := [(3, .int v335), (2, .int v306), (1, .int v10), (0, .ref o0)]) d_TrustDeskModel_readClause_110 rfl (by decide) rfl ?_
            refine mv_iload_n d_TrustDeskModel_readClause_111 rfl rfl ?_
            have := mz_hi v10
            refine mv_if_eqZ (tgt := 123) (a := v10.toInt) d_TrustDeskModel_readClause_112 (by decide) rfl (fun b357 => ?_) (fun b357 => absurd b357 (by omega))
            refine mv_iload_n d_TrustDeskModel_readClause_123 rfl rfl ?_
            have := mz_hi v306
            refine mv_if_eqZ (tgt := 135) (a := v306.toInt) d_TrustDeskModel_readClause_124 (by decide) rfl (fun b358 => ?_) (fun b358 => absurd b358 (by omega))
            refine mv_aload_n d_TrustDeskModel_readClause_135 rfl rfl ?_
            obtain ⟨a360, q359, t_a360⟩ := tm_atR I333 t343 (k := 8) rfl
            refine tr_getK q359 d_TrustDeskModel_readClause_136 f_TrustDeskModel_29_13 ?_
            refine mv_iload_n d_TrustDeskModel_readClause_139 rfl rfl ?_
            refine mv_aload_n d_TrustDeskModel_readClause_140 rfl rfl ?_
            refine mv_iconst (v := 1) d_TrustDeskModel_readClause_141 (by decide) ?_
            refine mv_bipush (v := 7) d_TrustDeskModel_readClause_142 (by decide) ?_
            obtain ⟨_, b367, -⟩ := I333.1 _ _ t343
            have : (1 : Int32).toInt = 1 := by decide
            have : (7 : Int32).toInt = 7 := by decide
            refine mv_callV (kc' := 0) (ks' := 0) (As := [.int 1, .int 7]) (st9 := [.int 7, .int 1, .ref o0, .int v335, .ref a360]) d_TrustDeskModel_readClause_144 lV_TrustDeskModel_317 b367 rfl (tc_TrustDeskModel_number_x (d := (d + 23)) (x9 := x9) (o0 := o0) (x1 := 1) (x2 := 7) t343 R336 E350.1 (E350.s yS (by decide)) I333.start) rfl (Nat.le_of_ble_eq_true rfl) (Nat.le_of_ble_eq_true rfl) (Nat.le_of_ble_eq_true rfl) (hst := rfl) (fun b361r M362 n363 b361 => ?_)
            obtain ⟨T364, J365, v368, rfl, R369, f370, f371⟩ := b361
            have I366 := I333.call J365 (tm_sub (by decide)) (Or.inl rfl)
            have t372 := J365.up t343
            have t373 := J365.up t_a360
            have := f370.2.1
            have f374 := Im.i f370.w.2
            have f375 := Im.i f370.w2
            have z376 := (rv_c I333 J365 (I333.up h_o0) (k := 22) rfl).trans z347
            have z377 := (rv_c I333 J365 (I333.up h_o0) (k := 24) rfl).trans z348
            have z378 := (ra_call I333 J365 (I333.up h_o0) (k := 5) rfl rfl rfl 44).trans z349
            have z379 := (ra_call I333 J365 (I333.up h_o0) (k := 6) rfl rfl rfl 44)
            have z380 := (ra_call I333 J365 (I333.up h_o0) (k := 7) rfl rfl rfl ((880 + ra M0 o0 6 44).toNat))
            have z381 := (ra_call I333 J365 (I333.up h_o0) (k := 10) rfl rfl rfl ((880 + ra M0 o0 6 44).toNat))
            have E382 : rE M0 M362 o0 0 2 := E350.trans f370 (by decide) (yR.2 5 _ _ rfl 44).1 (by decide) (by decide)
            have K383 : rK M0 M362 o0 ((880 + ra M0 o0 6 44).toNat) := K352.same (sA_c I333 J365 (I333.up h_o0) (by decide))
            have K384 : nN M362 o0 := K353.same (sA_c I333 J365 (I333.up h_o0) (by decide)) (sF_c I333 J365 (I333.up h_o0) (by decide))
            clear z347 z348 z349
            have q385 := J365.keep t343 (by decide) q354
            have t386 := J365.up t355
            have q387 := J365.keep t343 (by decide) q359
            refine tr_iastR (k := 8) I366 R369 (I366.up h_o0) q387 t373 (by decide) (by decide) (fun lo hi h => by cases h; have := R369.1 15 _ _ rfl; have := R369.1 16 _ _ rfl; have := R369.1 19 _ _ rfl; exact ⟨by show ((-1) : Int) ≤ v368.toInt; omega, by show v368.toInt ≤ (720 : Int); omega⟩) (Or.inl (by decide)) d_TrustDeskModel_readClause_147 (vp_in_iff.mpr (by have := R369.1 15 _ _ rfl; have := R369.1 16 _ _ rfl; have := R369.1 19 _ _ rfl; omega)) (fun M388 I389 K390 R391 E392 A393 V394 => ?_)
            have z395 := (V394 15)
            have z396 := (V394 16)
            have z397 := (V394 17)
            have z398 := (V394 19)
            have z399 := (V394 22).trans z376
            have z400 := (V394 24).trans z377
            have z401 := (A393 5 (by decide) rfl 44).trans z378
            have z402 := (A393 6 (by decide) rfl 44).trans z379
            have z403 := (A393 7 (by decide) rfl ((880 + ra M0 o0 6 44).toNat)).trans z380
            have z404 := (A393 10 (by decide) rfl ((880 + ra M0 o0 6 44).toNat)).trans z381
            have E405 : rE M0 M388 o0 0 2 := E382.same (fun k _ _ => V394 k) (fun k h1 h2 => A393 k (by omega) (by rcases (show k = 4 ∨ k = 5 by omega) with rfl | rfl <;> rfl))
            have h406 : (880 + ra M0 o0 6 44).toNat = v335.toNatClampNeg := by have := mz_nat9 (i := v335) (by have := R369.1 15 _ _ rfl; have := R369.1 16 _ _ rfl; have := R369.1 19 _ _ rfl; omega); have := R369.1 15 _ _ rfl; have := R369.1 16 _ _ rfl; have := R369.1 19 _ _ rfl; omega
            have z407 : ra M388 o0 8 ((880 + ra M0 o0 6 44).toNat) = v368.toInt := (E392 _).trans (if_pos h406)
            have K408 : rK M0 M388 o0 ((880 + ra M0 o0 6 44).toNat) := K383.st A393 E392 (by have := mz_nat9 (i := v335) (by have := R369.1 15 _ _ rfl; have := R369.1 16 _ _ rfl; have := R369.1 19 _ _ rfl; omega); have := R369.1 15 _ _ rfl; have := R369.1 16 _ _ rfl; have := R369.1 19 _ _ rfl; omega)
            have K409 : nN M388 o0 := K384.same (sA_a A393 (by decide)) (sF_a V394)
            clear z376 z377 z378 z379 z380 z381
            refine mv_aload_n d_TrustDeskModel_readClause_148 rfl rfl ?_
            obtain ⟨a411, q410, t_a411⟩ := tm_atR I389 t372 (k := 9) rfl
            refine tr_getK q410 d_TrustDeskModel_readClause_149 f_TrustDeskModel_32_13 ?_
            refine mv_iload_n d_TrustDeskModel_readClause_152 rfl rfl ?_
            refine mv_aload_n d_TrustDeskModel_readClause_153 rfl rfl ?_
            refine mv_iconst (v := 1) d_TrustDeskModel_readClause_154 (by decide) ?_
            refine mv_aload_n d_TrustDeskModel_readClause_155 rfl rfl ?_
            refine tr_getK (k := 8) (K390 _ 13 8 _ q387) d_TrustDeskModel_readClause_156 f_TrustDeskModel_29_13 ?_
            refine mv_iload_n d_TrustDeskModel_readClause_159 rfl rfl ?_
            refine tr_ialdR (o := o0) (k := 8) I389 (K390 _ 13 8 _ q387) t373 (by decide) d_TrustDeskModel_readClause_160 (vp_in_iff.mpr (by have := R391.1 15 _ _ rfl; have := R391.1 16 _ _ rfl; have := R391.1 19 _ _ rfl; omega)) (fun v412 e413 => ?_)
            have := R391.a (k := 8) rfl (v335 : Int32).toNatClampNeg
            have h414 : (880 + ra M0 o0 6 44).toNat = v335.toNatClampNeg := by have := mz_nat9 (i := v335) (by have := R391.1 15 _ _ rfl; have := R391.1 16 _ _ rfl; have := R391.1 19 _ _ rfl; omega); have := R391.1 15 _ _ rfl; have := R391.1 16 _ _ rfl; have := R391.1 19 _ _ rfl; omega
            have z415 : v412.toInt = ra M388 o0 8 ((880 + ra M0 o0 6 44).toNat) := by rw [e413, h414]
            have : v412.toInt = _ := Eq.trans z415 z407
            obtain ⟨_, b422, -⟩ := I389.1 _ _ t372
            have : (1 : Int32).toInt = 1 := by decide
            refine mv_callV (kc' := 0) (ks' := 0) (As := [.int 1, .int v412]) (st9 := [.int v412, .int 1, .ref o0, .int v335, .ref a411]) d_TrustDeskModel_readClause_161 lV_TrustDeskModel_317 b422 rfl (tc_TrustDeskModel_number_x (d := (d + 23)) (x9 := x9) (o0 := o0) (x1 := 1) (x2 := v412) t372 R391 E405.1 (E405.s yS (by decide)) I389.start) rfl (Nat.le_of_ble_eq_true rfl) (Nat.le_of_ble_eq_true rfl) (Nat.le_of_ble_eq_true rfl) (hst := rfl) (fun b416r M417 n418 b416 => ?_)
            obtain ⟨T419, J420, v423, rfl, R424, f425, f426⟩ := b416
            have I421 := I389.call J420 (tm_sub (by decide)) (Or.inl rfl)
            have t427 := J420.up t372
            have t428 := J420.up t_a411
            have := f425.2.1
            have f429 := Im.i f425.w.2
            have f430 := Im.i f425.w2
            have z431 := (rv_c I389 J420 (I389.up h_o0) (k := 22) rfl).trans z399
            have z432 := (rv_c I389 J420 (I389.up h_o0) (k := 24) rfl).trans z400
            have z433 := (ra_call I389 J420 (I389.up h_o0) (k := 5) rfl rfl rfl 44).trans z401
            have z434 := (ra_call I389 J420 (I389.up h_o0) (k := 6) rfl rfl rfl 44).trans z402
            have z435 := (ra_call I389 J420 (I389.up h_o0) (k := 7) rfl rfl rfl ((880 + ra M0 o0 6 44).toNat)).trans z403
            have z436 := (ra_call I389 J420 (I389.up h_o0) (k := 10) rfl rfl rfl ((880 + ra M0 o0 6 44).toNat)).trans z404
            have z437 := (ra_call I389 J420 (I389.up h_o0) (k := 8) rfl rfl rfl ((880 + ra M0 o0 6 44).toNat)).trans z407
            have E438 : rE M0 M417 o0 0 3 := E405.trans f425 (by decide) (yR.2 5 _ _ rfl 44).1 (by decide) (by decide)
            have K439 : rK M0 M417 o0 ((880 + ra M0 o0 6 44).toNat) := K408.same (sA_c I389 J420 (I389.up h_o0) (by decide))
            have K440 : nN M417 o0 := K409.same (sA_c I389 J420 (I389.up h_o0) (by decide)) (sF_c I389 J420 (I389.up h_o0) (by decide))
            clear z399 z400 z401 z402 z403 z404 z407
            have q441 := J420.keep t372 (by decide) (K390 _ 13 6 _ q385)
            have t442 := J420.up t386
            have q443 := J420.keep t372 (by decide) (K390 _ 13 8 _ q387)
            have t444 := J420.up t373
            have q445 := J420.keep t372 (by decide) q410
            refine tr_iastR (k := 9) I421 R424 (I421.up h_o0) q445 t428 (by decide) (by decide) (fun lo hi h => by cases h) (Or.inl (by decide)) d_TrustDeskModel_readClause_164 (vp_in_iff.mpr (by have := R424.1 15 _ _ rfl; have := R424.1 16 _ _ rfl; have := R424.1 19 _ _ rfl; omega)) (fun M446 I447 K448 R449 E450 A451 V452 => ?_)
            have z453 := (V452 15)
            have z454 := (V452 16)
            have z455 := (V452 17)
            have z456 := (V452 19)
            have z457 := (V452 22).trans z431
            have z458 := (V452 24).trans z432
            have z459 := (A451 5 (by decide) rfl 44).trans z433
            have z460 := (A451 6 (by decide) rfl 44).trans z434
            have z461 := (A451 7 (by decide) rfl ((880 + ra M0 o0 6 44).toNat)).trans z435
            have z462 := (A451 10 (by decide) rfl ((880 + ra M0 o0 6 44).toNat)).trans z436
            have z463 := (A451 8 (by decide) rfl ((880 + ra M0 o0 6 44).toNat)).trans z437
            have E464 : rE M0 M446 o0 0 3 := E438.same (fun k _ _ => V452 k) (fun k h1 h2 => A451 k (by omega) (by rcases (show k = 4 ∨ k = 5 by omega) with rfl | rfl <;> rfl))
            have K465 : rK M0 M446 o0 ((880 + ra M0 o0 6 44).toNat) := K439.same (sA_a A451 (by decide))
            have K466 : nN M446 o0 := K440.same (sA_a A451 (by decide)) (sF_a V452)
            clear z431 z432 z433 z434 z435 z436 z437
            refine mv_aload_n d_TrustDeskModel_readClause_165 rfl rfl ?_
            refine mv_bipush (v := 59) d_TrustDeskModel_readClause_166 (by decide) ?_
            obtain ⟨_, b473, -⟩ := I447.1 _ _ t427
            have : (59 : Int32).toInt = 59 := by decide
            refine mv_callV (kc' := 0) (ks' := 0) (As := [.int 59]) (st9 := [.int 59, .ref o0]) d_TrustDeskModel_readClause_168 lV_TrustDeskModel_291 b473 rfl (tc_TrustDeskModel_wantSign_x (d := (d + 23)) (x9 := x9) (o0 := o0) (x1 := 59) t427 R449 E464.1 (E464.s yS (by decide)) I447.start) rfl (Nat.le_of_ble_eq_true rfl) (Nat.le_of_ble_eq_true rfl) (Nat.le_of_ble_eq_true rfl) (hst := rfl) (fun b467r M468 n469 b467 => ?_)
            obtain ⟨T470, J471, rfl, R474, f475⟩ := b467
            have I472 := I447.call J471 (tm_sub (by decide)) (Or.inl rfl)
            have t476 := J471.up t427
            have := f475.2.1
            have f477 := Im.i f475.w.2
            have f478 := Im.i f475.w2
            have z479 := (rv_c I447 J471 (I447.up h_o0) (k := 22) rfl).trans z457
            have z480 := (rv_c I447 J471 (I447.up h_o0) (k := 24) rfl).trans z458
            have z481 := (ra_call I447 J471 (I447.up h_o0) (k := 5) rfl rfl rfl 44).trans z459
            have z482 := (ra_call I447 J471 (I447.up h_o0) (k := 6) rfl rfl rfl 44).trans z460
            have z483 := (ra_call I447 J471 (I447.up h_o0) (k := 7) rfl rfl rfl ((880 + ra M0 o0 6 44).toNat)).trans z461
            have z484 := (ra_call I447 J471 (I447.up h_o0) (k := 10) rfl rfl rfl ((880 + ra M0 o0 6 44).toNat)).trans z462
            have z485 := (ra_call I447 J471 (I447.up h_o0) (k := 8) rfl rfl rfl ((880 + ra M0 o0 6 44).toNat)).trans z463
            have E486 : rE M0 M468 o0 0 4 := E464.trans f475 (by decide) (yR.2 5 _ _ rfl 44).1 (by decide) (by decide)
            have K487 : rK M0 M468 o0 ((880 + ra M0 o0 6 44).toNat) := K465.same (sA_c I447 J471 (I447.up h_o0) (by decide))
            have K488 : nN M468 o0 := K466.same (sA_c I447 J471 (I447.up h_o0) (by decide)) (sF_c I447 J471 (I447.up h_o0) (by decide))
            clear z457 z458 z459 z460 z461 z462 z463
            have q489 := J471.keep t427 (by decide) (K448 _ 13 6 _ q441)
            have t490 := J471.up t442
            have q491 := J471.keep t427 (by decide) (K448 _ 13 8 _ q443)
            have t492 := J471.up t444
            have q493 := J471.keep t427 (by decide) (K448 _ 13 9 _ q445)
            have t494 := J471.up t428
            refine mv_aload_n d_TrustDeskModel_readClause_171 rfl rfl ?_
            obtain ⟨a496, q495, t_a496⟩ := tm_atR I472 t476 (k := 12) rfl
            refine tr_getK q495 d_TrustDeskModel_readClause_172 f_TrustDeskModel_41_13 ?_
            refine mv_iload_n d_TrustDeskModel_readClause_175 rfl rfl ?_
            refine mv_aload_n d_TrustDeskModel_readClause_176 rfl rfl ?_
            obtain ⟨a498, q497, t_a498⟩ := tm_atR I472 t476 (k := 5) rfl
            refine tr_getK q497 d_TrustDeskModel_readClause_177 f_TrustDeskModel_20_13 ?_
            refine mv_bipush (v := 44) d_TrustDeskModel_readClause_180 (by decide) ?_
            refine tr_ialdR (o := o0) (k := 5) I472 q497 t_a498 (by decide) d_TrustDeskModel_readClause_182 (by unfold vp_in; decide) (fun v499 e500 => ?_)
            have := R474.a (k := 5) rfl (44 : Int32).toNatClampNeg
            have : v499.toInt = ra M468 o0 5 44 := e500
            have : v499.toInt = _ := Eq.trans e500 z481
            refine tr_iastR (k := 12) I472 R474 (I472.up h_o0) q495 t_a496 (by decide) (by decide) (fun lo hi h => by cases h; have := R474.1 15 _ _ rfl; have := R474.1 16 _ _ rfl; have := R474.1 19 _ _ rfl; exact ⟨by show (0 : Int) ≤ v499.toInt; omega, by show v499.toInt ≤ (400 : Int); omega⟩) (Or.inl (by decide)) d_TrustDeskModel_readClause_183 (vp_in_iff.mpr (by have := R474.1 15 _ _ rfl; have := R474.1 16 _ _ rfl; have := R474.1 19 _ _ rfl; omega)) (fun M501 I502 K503 R504 E505 A506 V507 => ?_)
            have z508 := (V507 15)
            have z509 := (V507 16)
            have z510 := (V507 17)
            have z511 := (V507 19)
            have z512 := (V507 22).trans z479
            have z513 := (V507 24).trans z480
            have z514 := (A506 5 (by decide) rfl 44).trans z481
            have z515 := (A506 6 (by decide) rfl 44).trans z482
            have z516 := (A506 7 (by decide) rfl ((880 + ra M0 o0 6 44).toNat)).trans z483
            have z517 := (A506 10 (by decide) rfl ((880 + ra M0 o0 6 44).toNat)).trans z484
            have z518 := (A506 8 (by decide) rfl ((880 + ra M0 o0 6 44).toNat)).trans z485
            have E519 : rE M0 M501 o0 0 4 := E486.same (fun k _ _ => V507 k) (fun k h1 h2 => A506 k (by omega) (by rcases (show k = 4 ∨ k = 5 by omega) with rfl | rfl <;> rfl))
            have h520 : (880 + ra M0 o0 6 44).toNat = v335.toNatClampNeg := by have := mz_nat9 (i := v335) (by have := R474.1 15 _ _ rfl; have := R474.1 16 _ _ rfl; have := R474.1 19 _ _ rfl; omega); have := R474.1 15 _ _ rfl; have := R474.1 16 _ _ rfl; have := R474.1 19 _ _ rfl; omega
            have z521 : ra M501 o0 12 ((880 + ra M0 o0 6 44).toNat) = v499.toInt := (E505 _).trans (if_pos h520)
            have K522 : rK M0 M501 o0 ((880 + ra M0 o0 6 44).toNat) := K487.st A506 E505 (by have := mz_nat9 (i := v335) (by have := R474.1 15 _ _ rfl; have := R474.1 16 _ _ rfl; have := R474.1 19 _ _ rfl; omega); have := R474.1 15 _ _ rfl; have := R474.1 16 _ _ rfl; have := R474.1 19 _ _ rfl; omega)
            have K523 : nN M501 o0 := K488.same (sA_a A506 (by decide)) (sF_a V507)
            clear z479 z480 z481 z482 z483 z484 z485
            exact mv_vret d_TrustDeskModel_readClause_184 rfl ⟨_, I502, rfl, R504, (rW.of E519.1 (E519.s yS (by decide)) (fun w9 => by have u91 : rv M468 o0 19 = 0 := (by omega); have := f477.o u91; have := f478.o u91; have u92 : rv M417 o0 19 = 0 := (by omega); have := f429.o u92; have := f430.o u92; have u93 : rv M362 o0 19 = 0 := (by omega); have := f374.o u93; have := f375.o u93; have u94 : rv M329 o0 19 = 0 := (by omega); have := f344.o u94; have := f345.o u94; exact rG.step yG yR E519 w9 K522 (by have := yR.2 6 _ _ rfl 44; omega) (by have := R504.1 15 _ _ rfl; have := R504.1 16 _ _ rfl; have := R504.1 19 _ _ rfl; omega) (by have := R504.1 15 _ _ rfl; have := R504.1 16 _ _ rfl; have := R504.1 19 _ _ rfl; omega) (fun h9 => by exfalso; have := R504.1 15 _ _ rfl; have := R504.1 16 _ _ rfl; have := R504.1 19 _ _ rfl; omega) (fun h9 => (by have := R504.1 15 _ _ rfl; have := R504.1 16 _ _ rfl; have := R504.1 19 _ _ rfl; omega)) (by have := R504.1 15 _ _ rfl; have := R504.1 16 _ _ rfl; have := R504.1 19 _ _ rfl; omega) K523)), (rO.of E519 K522 (by have := yR.2 6 _ _ rfl 44; omega)), ⟨E519.2.1, fun w9 => by skip; have := E519.w2 w9; omega⟩, (fun w9 => by have u91 : rv M468 o0 19 = 0 := (by omega); have := f477.o u91; have := f478.o u91; have u92 : rv M417 o0 19 = 0 := (by omega); have := f429.o u92; have := f430.o u92; have u93 : rv M362 o0 19 = 0 := (by omega); have := f374.o u93; have := f375.o u93; have u94 : rv M329 o0 19 = 0 := (by omega); have := f344.o u94; have := f345.o u94; omega), (fun h9 _ => absurd h9 (f16.o (by have := R504.1 15 _ _ rfl; have := R504.1 16 _ _ rfl; have := R504.1 19 _ _ rfl; omega))), (by have := R504.1 15 _ _ rfl; have := R504.1 16 _ _ rfl; have := R504.1 19 _ _ rfl; omega)⟩
          · refine mv_bipush (v := 7) d_TrustDeskModel_readClause_100 (by decide) ?_
            refine mv_goto (tgt := 107) d_TrustDeskModel_readClause_102 (by decide) ?_
            obtain ⟨_, b530, -⟩ := I304.1 _ _ t311
            have : (7 : Int32).toInt = 7 := by decide
            refine mv_callV (kc' := 0) (ks' := 0) (As := [.int 7]) (st9 := [.int 7, .ref o0]) d_TrustDeskModel_readClause_107 lV_TrustDeskModel_342 b530 rfl (tc_TrustDeskModel_begin_x (d := (d + 23)) (x9 := x9) (o0 := o0) (x1 := 7) t311 R309 E320.1 (E320.s yS (by decide)) (by have := R309.1 15 _ _ rfl; have := R309.1 16 _ _ rfl; have := R309.1 19 _ _ rfl; omega) (by have := R309.1 15 _ _ rfl; have := R309.1 16 _ _ rfl; have := R309.1 19 _ _ rfl; omega) (by have := R309.1 15 _ _ rfl; have := R309.1 16 _ _ rfl; have := R309.1 19 _ _ rfl; omega) I304.start) rfl (Nat.le_of_ble_eq_true rfl) (Nat.le_of_ble_eq_true rfl) (Nat.le_of_ble_eq_true rfl) (hst := rfl) (fun b524r M525 n526 b524 => ?_)
            obtain ⟨T527, J528, v531, rfl, R532, f533, f534, f535, f536, f537, f538⟩ := b524
            have I529 := I304.call J528 (tm_sub (by decide)) (Or.inl rfl)
            have t539 := J528.up t311
            have := f533.2.1
            have f540 := Im.i f533.w.2
            have f541 := Im.i f533.w2
            have z542 := (rv_c I304 J528 (I304.up h_o0) (k := 19) rfl).trans z315
            have z543 := (rv_c I304 J528 (I304.up h_o0) (k := 22) rfl).trans z316
            have z544 := (rv_c I304 J528 (I304.up h_o0) (k := 24) rfl).trans z317
            have z545 := (ra_call I304 J528 (I304.up h_o0) (k := 5) rfl rfl rfl 44).trans z318
            have E546 : rE M0 M525 o0 0 1 := E320.trans f533 (by decide) (yR.2 5 _ _ rfl 44).1 (by decide) (by decide)
            have h547 : (880 + ra M300 o0 6 44).toNat = (880 + ra M0 o0 6 44).toNat := by omega
            rw [h547] at f536 f537 f538
            have K548 : rK M0 M525 o0 ((880 + ra M0 o0 6 44).toNat) := K321.trans f538
            have K549 : nN M525 o0 := K322.same (sA_c I304 J528 (I304.up h_o0) (by decide)) (sF_c I304 J528 (I304.up h_o0) (by decide))
            clear z315 z316 z317
            have q550 := J528.keep t311 (by decide) q323
            have t551 := J528.up t324
            have q552 := J528.keep t311 (by decide) q325
            refine mv_istore_n (lv' := [(3, .int v531), (2, .int v306), (1, .int v10), (0, .ref o0)]) d_TrustDeskModel_readClause_110 rfl (by decide) rfl ?_
            refine mv_iload_n d_TrustDeskModel_readClause_111 rfl rfl ?_
            have := mz_hi v10
            refine mv_if_eqZ (tgt := 123) (a := v10.toInt) d_TrustDeskModel_readClause_112 (by decide) rfl (fun b553 => ?_) (fun b553 => absurd b553 (by omega))
            refine mv_iload_n d_TrustDeskModel_readClause_123 rfl rfl ?_
            have := mz_hi v306
            refine mv_if_eqZ (tgt := 135) (a := v306.toInt) d_TrustDeskModel_readClause_124 (by decide) rfl (fun b554 => absurd b554 (by omega)) (fun b554 => ?_)
            refine mv_aload_n d_TrustDeskModel_readClause_127 rfl rfl ?_
            refine mv_iload_n d_TrustDeskModel_readClause_128 rfl rfl ?_
            obtain ⟨_, b561, -⟩ := I529.1 _ _ t539
            refine mv_callV (kc' := 0) (ks' := 0) (As := [.int v531]) (st9 := [.int v531, .ref o0]) d_TrustDeskModel_readClause_129 lV_TrustDeskModel_348 b561 rfl (tc_TrustDeskModel_readMarks_x (d := (d + 22)) (x9 := x9) (o0 := o0) (x1 := v531) t539 R532 E546.1 (E546.s yS (by decide)) (by have := R532.1 15 _ _ rfl; have := R532.1 16 _ _ rfl; have := R532.1 19 _ _ rfl; omega) I529.start) rfl (Nat.le_of_ble_eq_true rfl) (Nat.le_of_ble_eq_true rfl) (Nat.le_of_ble_eq_true rfl) (hst := rfl) (fun b555r M556 n557 b555 => ?_)
            obtain ⟨T558, J559, rfl, R562, f563, f564, f565⟩ := b555
            have I560 := I529.call J559 (tm_sub (by decide)) (Or.inl rfl)
            have t566 := J559.up t539
            have := f563.2.1
            have f567 := Im.i f563.w.2
            have f568 := Im.i f563.w2
            have z569 := (rv_c I529 J559 (I529.up h_o0) (k := 22) rfl).trans z543
            have z570 := (rv_c I529 J559 (I529.up h_o0) (k := 24) rfl).trans z544
            have z571 := (ra_call I529 J559 (I529.up h_o0) (k := 5) rfl rfl rfl 44).trans z545
            have z572 := (ra_call I529 J559 (I529.up h_o0) (k := 6) rfl rfl rfl 44)
            have z573 := (ra_call I529 J559 (I529.up h_o0) (k := 7) rfl rfl rfl ((880 + ra M0 o0 6 44).toNat))
            have z574 := (ra_call I529 J559 (I529.up h_o0) (k := 10) rfl rfl rfl ((880 + ra M0 o0 6 44).toNat))
            have E575 : rE M0 M556 o0 0 1 := E546.trans f563 (by decide) (yR.2 5 _ _ rfl 44).1 (by decide) (by decide)
            have h576 : v531.toNatClampNeg = (880 + ra M0 o0 6 44).toNat := by have := mz_nat9 (i := v531) (by have := R532.1 15 _ _ rfl; have := R532.1 16 _ _ rfl; have := R532.1 19 _ _ rfl; omega); have := R532.1 15 _ _ rfl; have := R532.1 16 _ _ rfl; have := R532.1 19 _ _ rfl; omega
            rw [h576] at f564 f565
            have K577 : rK M0 M556 o0 ((880 + ra M0 o0 6 44).toNat) := K548.one8 (sA_c I529 J559 (I529.up h_o0) (by decide)) f564
            have K578 : nN M556 o0 := K549.same (sA_c I529 J559 (I529.up h_o0) (by decide)) (sF_c I529 J559 (I529.up h_o0) (by decide))
            clear z543 z544 z545
            have q579 := J559.keep t539 (by decide) q550
            have t580 := J559.up t551
            refine mv_goto (tgt := 165) d_TrustDeskModel_readClause_132 (by decide) ?_
            refine mv_aload_n d_TrustDeskModel_readClause_165 rfl rfl ?_
            refine mv_bipush (v := 59) d_TrustDeskModel_readClause_166 (by decide) ?_
            obtain ⟨_, b587, -⟩ := I560.1 _ _ t566
            have : (59 : Int32).toInt = 59 := by decide
            refine mv_callV (kc' := 0) (ks' := 0) (As := [.int 59]) (st9 := [.int 59, .ref o0]) d_TrustDeskModel_readClause_168 lV_TrustDeskModel_291 b587 rfl (tc_TrustDeskModel_wantSign_x (d := (d + 23)) (x9 := x9) (o0 := o0) (x1 := 59) t566 R562 E575.1 (E575.s yS (by decide)) I560.start) rfl (Nat.le_of_ble_eq_true rfl) (Nat.le_of_ble_eq_true rfl) (Nat.le_of_ble_eq_true rfl) (hst := rfl) (fun b581r M582 n583 b581 => ?_)
            obtain ⟨T584, J585, rfl, R588, f589⟩ := b581
            have I586 := I560.call J585 (tm_sub (by decide)) (Or.inl rfl)
            have t590 := J585.up t566
            have := f589.2.1
            have f591 := Im.i f589.w.2
            have f592 := Im.i f589.w2
            have z593 := (rv_c I560 J585 (I560.up h_o0) (k := 22) rfl).trans z569
            have z594 := (rv_c I560 J585 (I560.up h_o0) (k := 24) rfl).trans z570
            have z595 := (ra_call I560 J585 (I560.up h_o0) (k := 5) rfl rfl rfl 44).trans z571
            have z596 := (ra_call I560 J585 (I560.up h_o0) (k := 6) rfl rfl rfl 44).trans z572
            have z597 := (ra_call I560 J585 (I560.up h_o0) (k := 7) rfl rfl rfl ((880 + ra M0 o0 6 44).toNat)).trans z573
            have z598 := (ra_call I560 J585 (I560.up h_o0) (k := 10) rfl rfl rfl ((880 + ra M0 o0 6 44).toNat)).trans z574
            have z599 := (ra_call I560 J585 (I560.up h_o0) (k := 8) rfl rfl rfl ((880 + ra M0 o0 6 44).toNat))
            have E600 : rE M0 M582 o0 0 2 := E575.trans f589 (by decide) (yR.2 5 _ _ rfl 44).1 (by decide) (by decide)
            have K601 : rK M0 M582 o0 ((880 + ra M0 o0 6 44).toNat) := K577.same (sA_c I560 J585 (I560.up h_o0) (by decide))
            have K602 : nN M582 o0 := K578.same (sA_c I560 J585 (I560.up h_o0) (by decide)) (sF_c I560 J585 (I560.up h_o0) (by decide))
            clear z569 z570 z571 z572 z573 z574
            have q603 := J585.keep t566 (by decide) q579
            have t604 := J585.up t580
            refine mv_aload_n d_TrustDeskModel_readClause_171 rfl rfl ?_
            obtain ⟨a606, q605, t_a606⟩ := tm_atR I586 t590 (k := 12) rfl
            refine tr_getK q605 d_TrustDeskModel_readClause_172 f_TrustDeskModel_41_13 ?_
            refine mv_iload_n d_TrustDeskModel_readClause_175 rfl rfl ?_
            refine mv_aload_n d_TrustDeskModel_readClause_176 rfl rfl ?_
            obtain ⟨a608, q607, t_a608⟩ := tm_atR I586 t590 (k := 5) rfl
            refine tr_getK q607 d_TrustDeskModel_readClause_177 f_TrustDeskModel_20_13 ?_
            refine mv_bipush (v := 44) d_TrustDeskModel_readClause_180 (by decide) ?_
            refine tr_ialdR (o := o0) (k := 5) I586 q607 t_a608 (by decide) d_TrustDeskModel_readClause_182 (by unfold vp_in; decide) (fun v609 e610 => ?_)
            have := R588.a (k := 5) rfl (44 : Int32).toNatClampNeg
            have : v609.toInt = ra M582 o0 5 44 := e610
            have : v609.toInt = _ := Eq.trans e610 z595
            refine tr_iastR (k := 12) I586 R588 (I586.up h_o0) q605 t_a606 (by decide) (by decide) (fun lo hi h => by cases h; have := R588.1 15 _ _ rfl; have := R588.1 16 _ _ rfl; have := R588.1 19 _ _ rfl; exact ⟨by show (0 : Int) ≤ v609.toInt; omega, by show v609.toInt ≤ (400 : Int); omega⟩) (Or.inl (by decide)) d_TrustDeskModel_readClause_183 (vp_in_iff.mpr (by have := R588.1 15 _ _ rfl; have := R588.1 16 _ _ rfl; have := R588.1 19 _ _ rfl; omega)) (fun M611 I612 K613 R614 E615 A616 V617 => ?_)
            have z618 := (V617 15)
            have z619 := (V617 16)
            have z620 := (V617 17)
            have z621 := (V617 19)
            have z622 := (V617 22).trans z593
            have z623 := (V617 24).trans z594
            have z624 := (A616 5 (by decide) rfl 44).trans z595
            have z625 := (A616 6 (by decide) rfl 44).trans z596
            have z626 := (A616 7 (by decide) rfl ((880 + ra M0 o0 6 44).toNat)).trans z597
            have z627 := (A616 10 (by decide) rfl ((880 + ra M0 o0 6 44).toNat)).trans z598
            have z628 := (A616 8 (by decide) rfl ((880 + ra M0 o0 6 44).toNat)).trans z599
            have E629 : rE M0 M611 o0 0 2 := E600.same (fun k _ _ => V617 k) (fun k h1 h2 => A616 k (by omega) (by rcases (show k = 4 ∨ k = 5 by omega) with rfl | rfl <;> rfl))
            have h630 : (880 + ra M0 o0 6 44).toNat = v531.toNatClampNeg := by have := mz_nat9 (i := v531) (by have := R588.1 15 _ _ rfl; have := R588.1 16 _ _ rfl; have := R588.1 19 _ _ rfl; omega); have := R588.1 15 _ _ rfl; have := R588.1 16 _ _ rfl; have := R588.1 19 _ _ rfl; omega
            have z631 : ra M611 o0 12 ((880 + ra M0 o0 6 44).toNat) = v609.toInt := (E615 _).trans (if_pos h630)
            have K632 : rK M0 M611 o0 ((880 + ra M0 o0 6 44).toNat) := K601.st A616 E615 (by have := mz_nat9 (i := v531) (by have := R588.1 15 _ _ rfl; have := R588.1 16 _ _ rfl; have := R588.1 19 _ _ rfl; omega); have := R588.1 15 _ _ rfl; have := R588.1 16 _ _ rfl; have := R588.1 19 _ _ rfl; omega)
            have K633 : nN M611 o0 := K602.same (sA_a A616 (by decide)) (sF_a V617)
            clear z593 z594 z595 z596 z597 z598 z599
            exact mv_vret d_TrustDeskModel_readClause_184 rfl ⟨_, I612, rfl, R614, (rW.of E629.1 (E629.s yS (by decide)) (fun w9 => by have u91 : rv M582 o0 19 = 0 := (by omega); have := f591.o u91; have := f592.o u91; have u92 : rv M556 o0 19 = 0 := (by omega); have := f567.o u92; have := f568.o u92; have u93 : rv M525 o0 19 = 0 := (by omega); have := f540.o u93; have := f541.o u93; exact rG.step yG yR E629 w9 K632 (by have := yR.2 6 _ _ rfl 44; omega) (by have := R614.1 15 _ _ rfl; have := R614.1 16 _ _ rfl; have := R614.1 19 _ _ rfl; omega) (by have := R614.1 15 _ _ rfl; have := R614.1 16 _ _ rfl; have := R614.1 19 _ _ rfl; omega) (fun h9 => by exfalso; have := R614.1 15 _ _ rfl; have := R614.1 16 _ _ rfl; have := R614.1 19 _ _ rfl; omega) (fun h9 => (by have := R614.1 15 _ _ rfl; have := R614.1 16 _ _ rfl; have := R614.1 19 _ _ rfl; omega)) (by have := R614.1 15 _ _ rfl; have := R614.1 16 _ _ rfl; have := R614.1 19 _ _ rfl; omega) K633)), (rO.of E629 K632 (by have := yR.2 6 _ _ rfl 44; omega)), ⟨E629.2.1, fun w9 => by skip; have := E629.w2 w9; omega⟩, (fun w9 => by have u91 : rv M582 o0 19 = 0 := (by omega); have := f591.o u91; have := f592.o u91; have u92 : rv M556 o0 19 = 0 := (by omega); have := f567.o u92; have := f568.o u92; have u93 : rv M525 o0 19 = 0 := (by omega); have := f540.o u93; have := f541.o u93; omega), (fun h9 _ => absurd h9 (f16.o (by have := R614.1 15 _ _ rfl; have := R614.1 16 _ _ rfl; have := R614.1 19 _ _ rfl; omega))), (by have := R614.1 15 _ _ rfl; have := R614.1 16 _ _ rfl; have := R614.1 19 _ _ rfl; omega)⟩
    · refine mv_aload_n d_TrustDeskModel_readClause_22 rfl rfl ?_
      refine mv_ldcSw (id := 44) (tx := "trust") d_TrustDeskModel_readClause_23 (List.mem_of_getElem? (i := 34) rfl) ?_
      obtain ⟨_, b640, -⟩ := I243.1 _ _ t250
      refine mv_callV (kc' := 0) (ks' := 0) (As := [.ref 44]) (st9 := [.ref 44, .ref o0]) d_TrustDeskModel_readClause_26 lV_TrustDeskModel_244 b640 rfl (tc_TrustDeskModel_isWord_s1_44_x (d := (d + 21)) (x9 := x9) (o0 := o0) t250 R248 I243.start) rfl (Nat.le_of_ble_eq_true rfl) (Nat.le_of_ble_eq_true rfl) (Nat.le_of_ble_eq_true rfl) (hst := rfl) (fun b634r M635 n636 b634 => ?_)
      obtain ⟨T637, J638, v641, rfl, b642, b643, R644, f645⟩ := b634
      have I639 := I243.call J638 (tm_sub (by decide)) (Or.inl rfl)
      have t646 := J638.up t250
      replace f645 := Im.i f645
      have z647 := (rv_c I243 J638 (I243.up h_o0) (k := 15) rfl).trans z251
      have z648 := (rv_c I243 J638 (I243.up h_o0) (k := 16) rfl).trans z252
      have z649 := (rv_c I243 J638 (I243.up h_o0) (k := 17) rfl).trans z253
      have z650 := (rv_c I243 J638 (I243.up h_o0) (k := 19) rfl).trans z254
      have z651 := (rv_c I243 J638 (I243.up h_o0) (k := 22) rfl).trans z255
      have z652 := (rv_c I243 J638 (I243.up h_o0) (k := 24) rfl).trans z256
      have z653 := (ra_call I243 J638 (I243.up h_o0) (k := 5) rfl rfl rfl 44).trans z257
      have z654 := (ra_call I243 J638 (I243.up h_o0) (k := 6) rfl rfl rfl 44).trans z258
      have E655 : rE M0 M635 o0 0 0 := E259.same (rE_hv I243 J638 (I243.up h_o0) 15 19 (by decide)) (rE_ha I243 J638 (I243.up h_o0) (by decide))
      have K656 : rK M0 M635 o0 ((880 + ra M0 o0 6 44).toNat) := K260.same (sA_c I243 J638 (I243.up h_o0) (by decide))
      have K657 : nN M635 o0 := K261.same (sA_c I243 J638 (I243.up h_o0) (by decide)) (sF_c I243 J638 (I243.up h_o0) (by decide))
      clear z251 z252 z254 z255 z256 z257 z258
      have := mz_hi v641
      refine mv_if_neZ (tgt := 40) (a := v641.toInt) d_TrustDeskModel_readClause_29 (by decide) rfl (fun b658 => ?_) (fun b658 => ?_)
      · refine mv_aload_n d_TrustDeskModel_readClause_40 rfl rfl ?_
        obtain ⟨a660, q659, t_a660⟩ := tm_atR I639 t646 (k := 6) rfl
        refine tr_getK q659 d_TrustDeskModel_readClause_41 f_TrustDeskModel_23_13 ?_
        refine mv_bipush (v := 44) d_TrustDeskModel_readClause_44 (by decide) ?_
        refine tr_ialdR (o := o0) (k := 6) I639 q659 t_a660 (by decide) d_TrustDeskModel_readClause_46 (by unfold vp_in; decide) (fun v661 e662 => ?_)
        have := R644.a (k := 6) rfl (44 : Int32).toNatClampNeg
        have : v661.toInt = ra M635 o0 6 44 := e662
        have : v661.toInt = _ := Eq.trans e662 z654
        refine mv_bipush (v := 12) d_TrustDeskModel_readClause_47 (by decide) ?_
        have := mz_hi v661
        refine mv_icmp_eqZ (tgt := 65) (a := v661.toInt) (b := 12) d_TrustDeskModel_readClause_49 (by decide) rfl (by decide) (fun b663 => ?_) (fun b663 => ?_)
        · refine mv_aload_n d_TrustDeskModel_readClause_65 rfl rfl ?_
          refine mv_iconst (v := 4) d_TrustDeskModel_readClause_66 (by decide) ?_
          obtain ⟨_, b670, -⟩ := I639.1 _ _ t646
          have : (4 : Int32).toInt = 4 := by decide
          refine mv_callV (kc' := 0) (ks' := 0) (As := [.int 4]) (st9 := [.int 4, .ref o0]) d_TrustDeskModel_readClause_67 lV_TrustDeskModel_240 b670 rfl (tc_TrustDeskModel_fails_x (d := (d + 25)) (x9 := x9) (o0 := o0) (x1 := 4) t646 R644 (by decide) I639.start) rfl (Nat.le_of_ble_eq_true rfl) (Nat.le_of_ble_eq_true rfl) (Nat.le_of_ble_eq_true rfl) (hst := rfl) (fun b664r M665 n666 b664 => ?_)
          obtain ⟨T667, J668, rfl, R671, f672⟩ := b664
          have I669 := I639.call J668 (tm_sub (by decide)) (Or.inl rfl)
          have t673 := J668.up t646
          have z674 := (rv_c I639 J668 (I639.up h_o0) (k := 15) rfl).trans z647
          have z675 := (rv_c I639 J668 (I639.up h_o0) (k := 16) rfl).trans z648
          have z676 := (rv_c I639 J668 (I639.up h_o0) (k := 17) rfl).trans z649
          have z677 := (rv_c I639 J668 (I639.up h_o0) (k := 22) rfl).trans z651
          have z678 := (rv_c I639 J668 (I639.up h_o0) (k := 24) rfl).trans z652
          have z679 := (ra_call I639 J668 (I639.up h_o0) (k := 5) rfl rfl rfl 44).trans z653
          have z680 := (ra_call I639 J668 (I639.up h_o0) (k := 6) rfl rfl rfl 44).trans z654
          have E681 : rE M0 M665 o0 0 0 := E655.fails (rE_hv I639 J668 (I639.up h_o0) 15 18 (by decide)) (rE_ha I639 J668 (I639.up h_o0) (by decide)) f672 0 0
          have K682 : rK M0 M665 o0 ((880 + ra M0 o0 6 44).toNat) := K656.same (sA_c I639 J668 (I639.up h_o0) (by decide))
          have K683 : nN M665 o0 := K657.same (sA_c I639 J668 (I639.up h_o0) (by decide)) (sF_c I639 J668 (I639.up h_o0) (by decide))
          clear z647 z648 z649 z651 z652 z653 z654
          have q684 := J668.keep t646 (by decide) q659
          have t685 := J668.up t_a660
          refine mv_aload_n d_TrustDeskModel_readClause_70 rfl rfl ?_
          obtain ⟨_, b686, -⟩ := I669.1 _ _ t673
          refine mv_callV (kc1 := 0) (ks1 := 0) (kc' := 0) (ks' := 0) (As := []) (st9 := [.ref o0]) d_TrustDeskModel_readClause_71 lV_TrustDeskModel_230 b686 rfl (mj_enter (by decide) (Nat.le_of_ble_eq_true rfl) ?_) rfl (Nat.le_of_ble_eq_true rfl) (Nat.le_of_ble_eq_true rfl) (Nat.le_of_ble_eq_true rfl) (hst := rfl) (fun _ _ _ h => h)
          refine mv_aload_n d_TrustDeskModel_isWell_0 rfl rfl ?_
          obtain ⟨v688, q687⟩ := tm_atI I669 t673 (k := 19) rfl
          refine tr_getK q687 d_TrustDeskModel_isWell_1 f_TrustDeskModel_224_13 ?_
          have := R671.f (k := 19) q687 rfl
          have := tm_rv q687
          refine mv_if_neZ (tgt := 11) (a := v688.toInt) d_TrustDeskModel_isWell_4 (by decide) rfl (fun b689 => ?_) (fun b689 => ?_)
          · refine mv_iconst (v := 0) d_TrustDeskModel_isWell_11 (by decide) ?_
            refine mv_iret d_TrustDeskModel_isWell_12 rfl (by decide) ?_
            refine mv_if_ne_f (tgt := 78) d_TrustDeskModel_readClause_74 (by decide) (by decide) ?_
            exact mv_vret d_TrustDeskModel_readClause_77 rfl ⟨_, I669, rfl, R671, (rW.of E681.1 (fun h9 => absurd h9 (by have := R671.1 15 _ _ rfl; have := R671.1 16 _ _ rfl; have := R671.1 19 _ _ rfl; omega)) (fun h9 => absurd h9 (by have := R671.1 15 _ _ rfl; have := R671.1 16 _ _ rfl; have := R671.1 19 _ _ rfl; omega))), (rO.of E681 K682 (by have := yR.2 6 _ _ rfl 44; omega)), ⟨E681.2.1, fun w9 => by skip; have := E681.w2 w9; omega⟩, (fun w9 => by skip; omega), (fun _ h9 => absurd h9 (by have := R671.1 15 _ _ rfl; have := R671.1 16 _ _ rfl; have := R671.1 19 _ _ rfl; omega)), (by have := R671.1 15 _ _ rfl; have := R671.1 16 _ _ rfl; have := R671.1 19 _ _ rfl; omega)⟩
          · exfalso
            have := R671.1 15 _ _ rfl; have := R671.1 16 _ _ rfl; have := R671.1 19 _ _ rfl; omega
        · refine mv_iload_n d_TrustDeskModel_readClause_52 rfl rfl ?_
          have := mz_hi v10
          refine mv_if_eqZ (tgt := 70) (a := v10.toInt) d_TrustDeskModel_readClause_53 (by decide) rfl (fun b690 => ?_) (fun b690 => absurd b690 (by omega))
          refine mv_aload_n d_TrustDeskModel_readClause_70 rfl rfl ?_
          obtain ⟨_, b691, -⟩ := I639.1 _ _ t646
          refine mv_callV (kc1 := 0) (ks1 := 0) (kc' := 0) (ks' := 0) (As := []) (st9 := [.ref o0]) d_TrustDeskModel_readClause_71 lV_TrustDeskModel_230 b691 rfl (mj_enter (by decide) (Nat.le_of_ble_eq_true rfl) ?_) rfl (Nat.le_of_ble_eq_true rfl) (Nat.le_of_ble_eq_true rfl) (Nat.le_of_ble_eq_true rfl) (hst := rfl) (fun _ _ _ h => h)
          refine mv_aload_n d_TrustDeskModel_isWell_0 rfl rfl ?_
          obtain ⟨v693, q692⟩ := tm_atI I639 t646 (k := 19) rfl
          refine tr_getK q692 d_TrustDeskModel_isWell_1 f_TrustDeskModel_224_13 ?_
          have := R644.f (k := 19) q692 rfl
          have := (tm_rv q692).symm.trans z650
          have := tm_rv q692
          have := mz_hi v693
          refine mv_if_neZ (tgt := 11) (a := v693.toInt) d_TrustDeskModel_isWell_4 (by decide) rfl (fun b694 => ?_) (fun b694 => ?_)
          · refine mv_iconst (v := 0) d_TrustDeskModel_isWell_11 (by decide) ?_
            refine mv_iret d_TrustDeskModel_isWell_12 rfl (by decide) ?_
            refine mv_if_ne_f (tgt := 78) d_TrustDeskModel_readClause_74 (by decide) (by decide) ?_
            exact mv_vret d_TrustDeskModel_readClause_77 rfl ⟨_, I639, rfl, R644, (rW.of E655.1 (E655.s yS (by decide)) (fun w9 => by skip; exact rG.step yG yR E655 w9 K656 (by have := yR.2 6 _ _ rfl 44; omega) (by have := R644.1 15 _ _ rfl; have := R644.1 16 _ _ rfl; have := R644.1 19 _ _ rfl; omega) (by have := R644.1 15 _ _ rfl; have := R644.1 16 _ _ rfl; have := R644.1 19 _ _ rfl; omega) (fun h9 => by exfalso; have := R644.1 15 _ _ rfl; have := R644.1 16 _ _ rfl; have := R644.1 19 _ _ rfl; omega) (fun h9 => (by have := R644.1 15 _ _ rfl; have := R644.1 16 _ _ rfl; have := R644.1 19 _ _ rfl; omega)) (by have := R644.1 15 _ _ rfl; have := R644.1 16 _ _ rfl; have := R644.1 19 _ _ rfl; omega) K657)), (rO.of E655 K656 (by have := yR.2 6 _ _ rfl 44; omega)), ⟨E655.2.1, fun w9 => by skip; have := E655.w2 w9; omega⟩, (fun w9 => by skip; omega), (fun _ h9 => absurd h9 (by have := R644.1 15 _ _ rfl; have := R644.1 16 _ _ rfl; have := R644.1 19 _ _ rfl; omega)), (by have := R644.1 15 _ _ rfl; have := R644.1 16 _ _ rfl; have := R644.1 19 _ _ rfl; omega)⟩
          · refine mv_iconst (v := 1) d_TrustDeskModel_isWell_7 (by decide) ?_
            refine mv_goto (tgt := 12) d_TrustDeskModel_isWell_8 (by decide) ?_
            refine mv_iret d_TrustDeskModel_isWell_12 rfl (by decide) ?_
            refine mv_if_ne_t (tgt := 78) d_TrustDeskModel_readClause_74 (by decide) (by decide) ?_
            refine mv_aload_n d_TrustDeskModel_readClause_78 rfl rfl ?_
            refine mv_ldcSw (id := 43) (tx := "mark") d_TrustDeskModel_readClause_79 (List.mem_of_getElem? (i := 33) rfl) ?_
            obtain ⟨_, b701, -⟩ := I639.1 _ _ t646
            refine mv_callV (kc' := 0) (ks' := 0) (As := [.ref 43]) (st9 := [.ref 43, .ref o0]) d_TrustDeskModel_readClause_82 lV_TrustDeskModel_244 b701 rfl (tc_TrustDeskModel_isWord_s1_43_x (d := (d + 21)) (x9 := x9) (o0 := o0) t646 R644 I639.start) rfl (Nat.le_of_ble_eq_true rfl) (Nat.le_of_ble_eq_true rfl) (Nat.le_of_ble_eq_true rfl) (hst := rfl) (fun b695r M696 n697 b695 => ?_)
            obtain ⟨T698, J699, v702, rfl, b703, b704, R705, f706⟩ := b695
            have I700 := I639.call J699 (tm_sub (by decide)) (Or.inl rfl)
            have t707 := J699.up t646
            replace f706 := Im.i f706
            have z708 := (rv_c I639 J699 (I639.up h_o0) (k := 15) rfl).trans z647
            have z709 := (rv_c I639 J699 (I639.up h_o0) (k := 16) rfl).trans z648
            have z710 := (rv_c I639 J699 (I639.up h_o0) (k := 17) rfl).trans z649
            have z711 := (rv_c I639 J699 (I639.up h_o0) (k := 19) rfl).trans z650
            have z712 := (rv_c I639 J699 (I639.up h_o0) (k := 22) rfl).trans z651
            have z713 := (rv_c I639 J699 (I639.up h_o0) (k := 24) rfl).trans z652
            have z714 := (ra_call I639 J699 (I639.up h_o0) (k := 5) rfl rfl rfl 44).trans z653
            have z715 := (ra_call I639 J699 (I639.up h_o0) (k := 6) rfl rfl rfl 44).trans z654
            have E716 : rE M0 M696 o0 0 0 := E655.same (rE_hv I639 J699 (I639.up h_o0) 15 19 (by decide)) (rE_ha I639 J699 (I639.up h_o0) (by decide))
            have K717 : rK M0 M696 o0 ((880 + ra M0 o0 6 44).toNat) := K656.same (sA_c I639 J699 (I639.up h_o0) (by decide))
            have K718 : nN M696 o0 := K657.same (sA_c I639 J699 (I639.up h_o0) (by decide)) (sF_c I639 J699 (I639.up h_o0) (by decide))
            clear z647 z648 z650 z651 z652 z653 z654
            have q719 := J699.keep t646 (by decide) q659
            have t720 := J699.up t_a660
            have q721 := J699.keep t646 (by decide) q692
            refine mv_istore_n (lv' := [(2, .int v702), (1, .int v10), (0, .ref o0)]) d_TrustDeskModel_readClause_85 rfl (by decide) rfl ?_
            refine mv_aload_n d_TrustDeskModel_readClause_86 rfl rfl ?_
            refine mv_iload_n d_TrustDeskModel_readClause_87 rfl rfl ?_
            have := mz_hi v10
            refine mv_if_eqZ (tgt := 96) (a := v10.toInt) d_TrustDeskModel_readClause_88 (by decide) rfl (fun b722 => ?_) (fun b722 => absurd b722 (by omega))
            refine mv_iload_n d_TrustDeskModel_readClause_96 rfl rfl ?_
            have := mz_hi v702
            refine mv_if_eqZ (tgt := 105) (a := v702.toInt) d_TrustDeskModel_readClause_97 (by decide) rfl (fun b723 => ?_) (fun b723 => ?_)
            · refine mv_bipush (v := 9) d_TrustDeskModel_readClause_105 (by decide) ?_
              obtain ⟨_, b730, -⟩ := I700.1 _ _ t707
              have : (9 : Int32).toInt = 9 := by decide
              refine mv_callV (kc' := 0) (ks' := 0) (As := [.int 9]) (st9 := [.int 9, .ref o0]) d_TrustDeskModel_readClause_107 lV_TrustDeskModel_342 b730 rfl (tc_TrustDeskModel_begin_x (d := (d + 23)) (x9 := x9) (o0 := o0) (x1 := 9) t707 R705 E716.1 (E716.s yS (by decide)) (by have := R705.1 15 _ _ rfl; have := R705.1 16 _ _ rfl; have := R705.1 19 _ _ rfl; omega) (by have := R705.1 15 _ _ rfl; have := R705.1 16 _ _ rfl; have := R705.1 19 _ _ rfl; omega) (by have := R705.1 15 _ _ rfl; have := R705.1 16 _ _ rfl; have := R705.1 19 _ _ rfl; omega) I700.start) rfl (Nat.le_of_ble_eq_true rfl) (Nat.le_of_ble_eq_true rfl) (Nat.le_of_ble_eq_true rfl) (hst := rfl) (fun b724r M725 n726 b724 => ?_)
              obtain ⟨T727, J728, v731, rfl, R732, f733, f734, f735, f736, f737, f738⟩ := b724
              have I729 := I700.call J728 (tm_sub (by decide)) (Or.inl rfl)
              have t739 := J728.up t707
              have := f733.2.1
              have f740 := Im.i f733.w.2
              have f741 := Im.i f733.w2
              have z742 := (rv_c I700 J728 (I700.up h_o0) (k := 19) rfl).trans z711
              have z743 := (rv_c I700 J728 (I700.up h_o0) (k := 22) rfl).trans z712
              have z744 := (rv_c I700 J728 (I700.up h_o0) (k := 24) rfl).trans z713
              have z745 := (ra_call I700 J728 (I700.up h_o0) (k := 5) rfl rfl rfl 44).trans z714
              have E746 : rE M0 M725 o0 0 1 := E716.trans f733 (by decide) (yR.2 5 _ _ rfl 44).1 (by decide) (by decide)
              have h747 : (880 + ra M696 o0 6 44).toNat = (880 + ra M0 o0 6 44).toNat := by omega
              rw [h747] at f736 f737 f738
              have K748 : rK M0 M725 o0 ((880 + ra M0 o0 6 44).toNat) := K717.trans f738
              have K749 : nN M725 o0 := K718.same (sA_c I700 J728 (I700.up h_o0) (by decide)) (sF_c I700 J728 (I700.up h_o0) (by decide))
              clear z711 z712 z713
              have q750 := J728.keep t707 (by decide) q719
              have t751 := J728.up t720
              have q752 := J728.keep t707 (by decide) q721
              refine mv_istore_n (lv' := [(3, .int v731), (2, .int v702), (1, .int v10), (0, .ref o0)]) d_TrustDeskModel_readClause_110 rfl (by decide) rfl ?_
              refine mv_iload_n d_TrustDeskModel_readClause_111 rfl rfl ?_
              have := mz_hi v10
              refine mv_if_eqZ (tgt := 123) (a := v10.toInt) d_TrustDeskModel_readClause_112 (by decide) rfl (fun b753 => ?_) (fun b753 => absurd b753 (by omega))
              refine mv_iload_n d_TrustDeskModel_readClause_123 rfl rfl ?_
              have := mz_hi v702
              refine mv_if_eqZ (tgt := 135) (a := v702.toInt) d_TrustDeskModel_readClause_124 (by decide) rfl (fun b754 => ?_) (fun b754 => absurd b754 (by omega))
              refine mv_aload_n d_TrustDeskModel_readClause_135 rfl rfl ?_
              obtain ⟨a756, q755, t_a756⟩ := tm_atR I729 t739 (k := 8) rfl
              refine tr_getK q755 d_TrustDeskModel_readClause_136 f_TrustDeskModel_29_13 ?_
              refine mv_iload_n d_TrustDeskModel_readClause_139 rfl rfl ?_
              refine mv_aload_n d_TrustDeskModel_readClause_140 rfl rfl ?_
              refine mv_iconst (v := 1) d_TrustDeskModel_readClause_141 (by decide) ?_
              refine mv_bipush (v := 7) d_TrustDeskModel_readClause_142 (by decide) ?_
              obtain ⟨_, b763, -⟩ := I729.1 _ _ t739
              have : (1 : Int32).toInt = 1 := by decide
              have : (7 : Int32).toInt = 7 := by decide
              refine mv_callV (kc' := 0) (ks' := 0) (As := [.int 1, .int 7]) (st9 := [.int 7, .int 1, .ref o0, .int v731, .ref a756]) d_TrustDeskModel_readClause_144 lV_TrustDeskModel_317 b763 rfl (tc_TrustDeskModel_number_x (d := (d + 23)) (x9 := x9) (o0 := o0) (x1 := 1) (x2 := 7) t739 R732 E746.1 (E746.s yS (by decide)) I729.start) rfl (Nat.le_of_ble_eq_true rfl) (Nat.le_of_ble_eq_true rfl) (Nat.le_of_ble_eq_true rfl) (hst := rfl) (fun b757r M758 n759 b757 => ?_)
              obtain ⟨T760, J761, v764, rfl, R765, f766, f767⟩ := b757
              have I762 := I729.call J761 (tm_sub (by decide)) (Or.inl rfl)
              have t768 := J761.up t739
              have t769 := J761.up t_a756
              have := f766.2.1
              have f770 := Im.i f766.w.2
              have f771 := Im.i f766.w2
              have z772 := (rv_c I729 J761 (I729.up h_o0) (k := 22) rfl).trans z743
              have z773 := (rv_c I729 J761 (I729.up h_o0) (k := 24) rfl).trans z744
              have z774 := (ra_call I729 J761 (I729.up h_o0) (k := 5) rfl rfl rfl 44).trans z745
              have z775 := (ra_call I729 J761 (I729.up h_o0) (k := 6) rfl rfl rfl 44)
              have z776 := (ra_call I729 J761 (I729.up h_o0) (k := 7) rfl rfl rfl ((880 + ra M0 o0 6 44).toNat))
              have z777 := (ra_call I729 J761 (I729.up h_o0) (k := 10) rfl rfl rfl ((880 + ra M0 o0 6 44).toNat))
              have E778 : rE M0 M758 o0 0 2 := E746.trans f766 (by decide) (yR.2 5 _ _ rfl 44).1 (by decide) (by decide)
              have K779 : rK M0 M758 o0 ((880 + ra M0 o0 6 44).toNat) := K748.same (sA_c I729 J761 (I729.up h_o0) (by decide))
              have K780 : nN M758 o0 := K749.same (sA_c I729 J761 (I729.up h_o0) (by decide)) (sF_c I729 J761 (I729.up h_o0) (by decide))
              clear z743 z744 z745
              have q781 := J761.keep t739 (by decide) q750
              have t782 := J761.up t751
              have q783 := J761.keep t739 (by decide) q755
              refine tr_iastR (k := 8) I762 R765 (I762.up h_o0) q783 t769 (by decide) (by decide) (fun lo hi h => by cases h; have := R765.1 15 _ _ rfl; have := R765.1 16 _ _ rfl; have := R765.1 19 _ _ rfl; exact ⟨by show ((-1) : Int) ≤ v764.toInt; omega, by show v764.toInt ≤ (720 : Int); omega⟩) (Or.inl (by decide)) d_TrustDeskModel_readClause_147 (vp_in_iff.mpr (by have := R765.1 15 _ _ rfl; have := R765.1 16 _ _ rfl; have := R765.1 19 _ _ rfl; omega)) (fun M784 I785 K786 R787 E788 A789 V790 => ?_)
              have z791 := (V790 15)
              have z792 := (V790 16)
              have z793 := (V790 17)
              have z794 := (V790 19)
              have z795 := (V790 22).trans z772
              have z796 := (V790 24).trans z773
              have z797 := (A789 5 (by decide) rfl 44).trans z774
              have z798 := (A789 6 (by decide) rfl 44).trans z775
              have z799 := (A789 7 (by decide) rfl ((880 + ra M0 o0 6 44).toNat)).trans z776
              have z800 := (A789 10 (by decide) rfl ((880 + ra M0 o0 6 44).toNat)).trans z777
              have E801 : rE M0 M784 o0 0 2 := E778.same (fun k _ _ => V790 k) (fun k h1 h2 => A789 k (by omega) (by rcases (show k = 4 ∨ k = 5 by omega) with rfl | rfl <;> rfl))
              have h802 : (880 + ra M0 o0 6 44).toNat = v731.toNatClampNeg := by have := mz_nat9 (i := v731) (by have := R765.1 15 _ _ rfl; have := R765.1 16 _ _ rfl; have := R765.1 19 _ _ rfl; omega); have := R765.1 15 _ _ rfl; have := R765.1 16 _ _ rfl; have := R765.1 19 _ _ rfl; omega
              have z803 : ra M784 o0 8 ((880 + ra M0 o0 6 44).toNat) = v764.toInt := (E788 _).trans (if_pos h802)
              have K804 : rK M0 M784 o0 ((880 + ra M0 o0 6 44).toNat) := K779.st A789 E788 (by have := mz_nat9 (i := v731) (by have := R765.1 15 _ _ rfl; have := R765.1 16 _ _ rfl; have := R765.1 19 _ _ rfl; omega); have := R765.1 15 _ _ rfl; have := R765.1 16 _ _ rfl; have := R765.1 19 _ _ rfl; omega)
              have K805 : nN M784 o0 := K780.same (sA_a A789 (by decide)) (sF_a V790)
              clear z772 z773 z774 z775 z776 z777
              refine mv_aload_n d_TrustDeskModel_readClause_148 rfl rfl ?_
              obtain ⟨a807, q806, t_a807⟩ := tm_atR I785 t768 (k := 9) rfl
              refine tr_getK q806 d_TrustDeskModel_readClause_149 f_TrustDeskModel_32_13 ?_
              refine mv_iload_n d_TrustDeskModel_readClause_152 rfl rfl ?_
              refine mv_aload_n d_TrustDeskModel_readClause_153 rfl rfl ?_
              refine mv_iconst (v := 1) d_TrustDeskModel_readClause_154 (by decide) ?_
              refine mv_aload_n d_TrustDeskModel_readClause_155 rfl rfl ?_
              refine tr_getK (k := 8) (K786 _ 13 8 _ q783) d_TrustDeskModel_readClause_156 f_TrustDeskModel_29_13 ?_
              refine mv_iload_n d_TrustDeskModel_readClause_159 rfl rfl ?_
              refine tr_ialdR (o := o0) (k := 8) I785 (K786 _ 13 8 _ q783) t769 (by decide) d_TrustDeskModel_readClause_160 (vp_in_iff.mpr (by have := R787.1 15 _ _ rfl; have := R787.1 16 _ _ rfl; have := R787.1 19 _ _ rfl; omega)) (fun v808 e809 => ?_)
              have := R787.a (k := 8) rfl (v731 : Int32).toNatClampNeg
              have h810 : (880 + ra M0 o0 6 44).toNat = v731.toNatClampNeg := by have := mz_nat9 (i := v731) (by have := R787.1 15 _ _ rfl; have := R787.1 16 _ _ rfl; have := R787.1 19 _ _ rfl; omega); have := R787.1 15 _ _ rfl; have := R787.1 16 _ _ rfl; have := R787.1 19 _ _ rfl; omega
              have z811 : v808.toInt = ra M784 o0 8 ((880 + ra M0 o0 6 44).toNat) := by rw [e809, h810]
              have : v808.toInt = _ := Eq.trans z811 z803
              obtain ⟨_, b818, -⟩ := I785.1 _ _ t768
              have : (1 : Int32).toInt = 1 := by decide
              refine mv_callV (kc' := 0) (ks' := 0) (As := [.int 1, .int v808]) (st9 := [.int v808, .int 1, .ref o0, .int v731, .ref a807]) d_TrustDeskModel_readClause_161 lV_TrustDeskModel_317 b818 rfl (tc_TrustDeskModel_number_x (d := (d + 23)) (x9 := x9) (o0 := o0) (x1 := 1) (x2 := v808) t768 R787 E801.1 (E801.s yS (by decide)) I785.start) rfl (Nat.le_of_ble_eq_true rfl) (Nat.le_of_ble_eq_true rfl) (Nat.le_of_ble_eq_true rfl) (hst := rfl) (fun b812r M813 n814 b812 => ?_)
              obtain ⟨T815, J816, v819, rfl, R820, f821, f822⟩ := b812
              have I817 := I785.call J816 (tm_sub (by decide)) (Or.inl rfl)
              have t823 := J816.up t768
              have t824 := J816.up t_a807
              have := f821.2.1
              have f825 := Im.i f821.w.2
              have f826 := Im.i f821.w2
              have z827 := (rv_c I785 J816 (I785.up h_o0) (k := 22) rfl).trans z795
              have z828 := (rv_c I785 J816 (I785.up h_o0) (k := 24) rfl).trans z796
              have z829 := (ra_call I785 J816 (I785.up h_o0) (k := 5) rfl rfl rfl 44).trans z797
              have z830 := (ra_call I785 J816 (I785.up h_o0) (k := 6) rfl rfl rfl 44).trans z798
              have z831 := (ra_call I785 J816 (I785.up h_o0) (k := 7) rfl rfl rfl ((880 + ra M0 o0 6 44).toNat)).trans z799
              have z832 := (ra_call I785 J816 (I785.up h_o0) (k := 10) rfl rfl rfl ((880 + ra M0 o0 6 44).toNat)).trans z800
              have z833 := (ra_call I785 J816 (I785.up h_o0) (k := 8) rfl rfl rfl ((880 + ra M0 o0 6 44).toNat)).trans z803
              have E834 : rE M0 M813 o0 0 3 := E801.trans f821 (by decide) (yR.2 5 _ _ rfl 44).1 (by decide) (by decide)
              have K835 : rK M0 M813 o0 ((880 + ra M0 o0 6 44).toNat) := K804.same (sA_c I785 J816 (I785.up h_o0) (by decide))
              have K836 : nN M813 o0 := K805.same (sA_c I785 J816 (I785.up h_o0) (by decide)) (sF_c I785 J816 (I785.up h_o0) (by decide))
              clear z795 z796 z797 z798 z799 z800 z803
              have q837 := J816.keep t768 (by decide) (K786 _ 13 6 _ q781)
              have t838 := J816.up t782
              have q839 := J816.keep t768 (by decide) (K786 _ 13 8 _ q783)
              have t840 := J816.up t769
              have q841 := J816.keep t768 (by decide) q806
              refine tr_iastR (k := 9) I817 R820 (I817.up h_o0) q841 t824 (by decide) (by decide) (fun lo hi h => by cases h) (Or.inl (by decide)) d_TrustDeskModel_readClause_164 (vp_in_iff.mpr (by have := R820.1 15 _ _ rfl; have := R820.1 16 _ _ rfl; have := R820.1 19 _ _ rfl; omega)) (fun M842 I843 K844 R845 E846 A847 V848 => ?_)
              have z849 := (V848 15)
              have z850 := (V848 16)
              have z851 := (V848 17)
              have z852 := (V848 19)
              have z853 := (V848 22).trans z827
              have z854 := (V848 24).trans z828
              have z855 := (A847 5 (by decide) rfl 44).trans z829
              have z856 := (A847 6 (by decide) rfl 44).trans z830
              have z857 := (A847 7 (by decide) rfl ((880 + ra M0 o0 6 44).toNat)).trans z831
              have z858 := (A847 10 (by decide) rfl ((880 + ra M0 o0 6 44).toNat)).trans z832
              have z859 := (A847 8 (by decide) rfl ((880 + ra M0 o0 6 44).toNat)).trans z833
              have E860 : rE M0 M842 o0 0 3 := E834.same (fun k _ _ => V848 k) (fun k h1 h2 => A847 k (by omega) (by rcases (show k = 4 ∨ k = 5 by omega) with rfl | rfl <;> rfl))
              have K861 : rK M0 M842 o0 ((880 + ra M0 o0 6 44).toNat) := K835.same (sA_a A847 (by decide))
              have K862 : nN M842 o0 := K836.same (sA_a A847 (by decide)) (sF_a V848)
              clear z827 z828 z829 z830 z831 z832 z833
              refine mv_aload_n d_TrustDeskModel_readClause_165 rfl rfl ?_
              refine mv_bipush (v := 59) d_TrustDeskModel_readClause_166 (by decide) ?_
              obtain ⟨_, b869, -⟩ := I843.1 _ _ t823
              have : (59 : Int32).toInt = 59 := by decide
              refine mv_callV (kc' := 0) (ks' := 0) (As := [.int 59]) (st9 := [.int 59, .ref o0]) d_TrustDeskModel_readClause_168 lV_TrustDeskModel_291 b869 rfl (tc_TrustDeskModel_wantSign_x (d := (d + 23)) (x9 := x9) (o0 := o0) (x1 := 59) t823 R845 E860.1 (E860.s yS (by decide)) I843.start) rfl (Nat.le_of_ble_eq_true rfl) (Nat.le_of_ble_eq_true rfl) (Nat.le_of_ble_eq_true rfl) (hst := rfl) (fun b863r M864 n865 b863 => ?_)
              obtain ⟨T866, J867, rfl, R870, f871⟩ := b863
              have I868 := I843.call J867 (tm_sub (by decide)) (Or.inl rfl)
              have t872 := J867.up t823
              have := f871.2.1
              have f873 := Im.i f871.w.2
              have f874 := Im.i f871.w2
              have z875 := (rv_c I843 J867 (I843.up h_o0) (k := 22) rfl).trans z853
              have z876 := (rv_c I843 J867 (I843.up h_o0) (k := 24) rfl).trans z854
              have z877 := (ra_call I843 J867 (I843.up h_o0) (k := 5) rfl rfl rfl 44).trans z855
              have z878 := (ra_call I843 J867 (I843.up h_o0) (k := 6) rfl rfl rfl 44).trans z856
              have z879 := (ra_call I843 J867 (I843.up h_o0) (k := 7) rfl rfl rfl ((880 + ra M0 o0 6 44).toNat)).trans z857
              have z880 := (ra_call I843 J867 (I843.up h_o0) (k := 10) rfl rfl rfl ((880 + ra M0 o0 6 44).toNat)).trans z858
              have z881 := (ra_call I843 J867 (I843.up h_o0) (k := 8) rfl rfl rfl ((880 + ra M0 o0 6 44).toNat)).trans z859
              have E882 : rE M0 M864 o0 0 4 := E860.trans f871 (by decide) (yR.2 5 _ _ rfl 44).1 (by decide) (by decide)
              have K883 : rK M0 M864 o0 ((880 + ra M0 o0 6 44).toNat) := K861.same (sA_c I843 J867 (I843.up h_o0) (by decide))
              have K884 : nN M864 o0 := K862.same (sA_c I843 J867 (I843.up h_o0) (by decide)) (sF_c I843 J867 (I843.up h_o0) (by decide))
              clear z853 z854 z855 z856 z857 z858 z859
              have q885 := J867.keep t823 (by decide) (K844 _ 13 6 _ q837)
              have t886 := J867.up t838
              have q887 := J867.keep t823 (by decide) (K844 _ 13 8 _ q839)
              have t888 := J867.up t840
              have q889 := J867.keep t823 (by decide) (K844 _ 13 9 _ q841)
              have t890 := J867.up t824
              refine mv_aload_n d_TrustDeskModel_readClause_171 rfl rfl ?_
              obtain ⟨a892, q891, t_a892⟩ := tm_atR I868 t872 (k := 12) rfl
              refine tr_getK q891 d_TrustDeskModel_readClause_172 f_TrustDeskModel_41_13 ?_
              refine mv_iload_n d_TrustDeskModel_readClause_175 rfl rfl ?_
              refine mv_aload_n d_TrustDeskModel_readClause_176 rfl rfl ?_
              obtain ⟨a894, q893, t_a894⟩ := tm_atR I868 t872 (k := 5) rfl
              refine tr_getK q893 d_TrustDeskModel_readClause_177 f_TrustDeskModel_20_13 ?_
              refine mv_bipush (v := 44) d_TrustDeskModel_readClause_180 (by decide) ?_
              refine tr_ialdR (o := o0) (k := 5) I868 q893 t_a894 (by decide) d_TrustDeskModel_readClause_182 (by unfold vp_in; decide) (fun v895 e896 => ?_)
              have := R870.a (k := 5) rfl (44 : Int32).toNatClampNeg
              have : v895.toInt = ra M864 o0 5 44 := e896
              have : v895.toInt = _ := Eq.trans e896 z877
              refine tr_iastR (k := 12) I868 R870 (I868.up h_o0) q891 t_a892 (by decide) (by decide) (fun lo hi h => by cases h; have := R870.1 15 _ _ rfl; have := R870.1 16 _ _ rfl; have := R870.1 19 _ _ rfl; exact ⟨by show (0 : Int) ≤ v895.toInt; omega, by show v895.toInt ≤ (400 : Int); omega⟩) (Or.inl (by decide)) d_TrustDeskModel_readClause_183 (vp_in_iff.mpr (by have := R870.1 15 _ _ rfl; have := R870.1 16 _ _ rfl; have := R870.1 19 _ _ rfl; omega)) (fun M897 I898 K899 R900 E901 A902 V903 => ?_)
              have z904 := (V903 15)
              have z905 := (V903 16)
              have z906 := (V903 17)
              have z907 := (V903 19)
              have z908 := (V903 22).trans z875
              have z909 := (V903 24).trans z876
              have z910 := (A902 5 (by decide) rfl 44).trans z877
              have z911 := (A902 6 (by decide) rfl 44).trans z878
              have z912 := (A902 7 (by decide) rfl ((880 + ra M0 o0 6 44).toNat)).trans z879
              have z913 := (A902 10 (by decide) rfl ((880 + ra M0 o0 6 44).toNat)).trans z880
              have z914 := (A902 8 (by decide) rfl ((880 + ra M0 o0 6 44).toNat)).trans z881
              have E915 : rE M0 M897 o0 0 4 := E882.same (fun k _ _ => V903 k) (fun k h1 h2 => A902 k (by omega) (by rcases (show k = 4 ∨ k = 5 by omega) with rfl | rfl <;> rfl))
              have h916 : (880 + ra M0 o0 6 44).toNat = v731.toNatClampNeg := by have := mz_nat9 (i := v731) (by have := R870.1 15 _ _ rfl; have := R870.1 16 _ _ rfl; have := R870.1 19 _ _ rfl; omega); have := R870.1 15 _ _ rfl; have := R870.1 16 _ _ rfl; have := R870.1 19 _ _ rfl; omega
              have z917 : ra M897 o0 12 ((880 + ra M0 o0 6 44).toNat) = v895.toInt := (E901 _).trans (if_pos h916)
              have K918 : rK M0 M897 o0 ((880 + ra M0 o0 6 44).toNat) := K883.st A902 E901 (by have := mz_nat9 (i := v731) (by have := R870.1 15 _ _ rfl; have := R870.1 16 _ _ rfl; have := R870.1 19 _ _ rfl; omega); have := R870.1 15 _ _ rfl; have := R870.1 16 _ _ rfl; have := R870.1 19 _ _ rfl; omega)
              have K919 : nN M897 o0 := K884.same (sA_a A902 (by decide)) (sF_a V903)
              clear z875 z876 z877 z878 z879 z880 z881
              exact mv_vret d_TrustDeskModel_readClause_184 rfl ⟨_, I898, rfl, R900, (rW.of E915.1 (E915.s yS (by decide)) (fun w9 => by have u91 : rv M864 o0 19 = 0 := (by omega); have := f873.o u91; have := f874.o u91; have u92 : rv M813 o0 19 = 0 := (by omega); have := f825.o u92; have := f826.o u92; have u93 : rv M758 o0 19 = 0 := (by omega); have := f770.o u93; have := f771.o u93; have u94 : rv M725 o0 19 = 0 := (by omega); have := f740.o u94; have := f741.o u94; exact rG.step yG yR E915 w9 K918 (by have := yR.2 6 _ _ rfl 44; omega) (by have := R900.1 15 _ _ rfl; have := R900.1 16 _ _ rfl; have := R900.1 19 _ _ rfl; omega) (by have := R900.1 15 _ _ rfl; have := R900.1 16 _ _ rfl; have := R900.1 19 _ _ rfl; omega) (fun h9 => by exfalso; have := R900.1 15 _ _ rfl; have := R900.1 16 _ _ rfl; have := R900.1 19 _ _ rfl; omega) (fun h9 => (by have := R900.1 15 _ _ rfl; have := R900.1 16 _ _ rfl; have := R900.1 19 _ _ rfl; omega)) (by have := R900.1 15 _ _ rfl; have := R900.1 16 _ _ rfl; have := R900.1 19 _ _ rfl; omega) K919)), (rO.of E915 K918 (by have := yR.2 6 _ _ rfl 44; omega)), ⟨E915.2.1, fun w9 => by skip; have := E915.w2 w9; omega⟩, (fun w9 => by have u91 : rv M864 o0 19 = 0 := (by omega); have := f873.o u91; have := f874.o u91; have u92 : rv M813 o0 19 = 0 := (by omega); have := f825.o u92; have := f826.o u92; have u93 : rv M758 o0 19 = 0 := (by omega); have := f770.o u93; have := f771.o u93; have u94 : rv M725 o0 19 = 0 := (by omega); have := f740.o u94; have := f741.o u94; omega), (fun h9 _ => absurd h9 (f16.o (by have := R900.1 15 _ _ rfl; have := R900.1 16 _ _ rfl; have := R900.1 19 _ _ rfl; omega))), (by have := R900.1 15 _ _ rfl; have := R900.1 16 _ _ rfl; have := R900.1 19 _ _ rfl; omega)⟩
            · refine mv_bipush (v := 7) d_TrustDeskModel_readClause_100 (by decide) ?_
              refine mv_goto (tgt := 107) d_TrustDeskModel_readClause_102 (by decide) ?_
              obtain ⟨_, b926, -⟩ := I700.1 _ _ t707
              have : (7 : Int32).toInt = 7 := by decide
              refine mv_callV (kc' := 0) (ks' := 0) (As := [.int 7]) (st9 := [.int 7, .ref o0]) d_TrustDeskModel_readClause_107 lV_TrustDeskModel_342 b926 rfl (tc_TrustDeskModel_begin_x (d := (d + 23)) (x9 := x9) (o0 := o0) (x1 := 7) t707 R705 E716.1 (E716.s yS (by decide)) (by have := R705.1 15 _ _ rfl; have := R705.1 16 _ _ rfl; have := R705.1 19 _ _ rfl; omega) (by have := R705.1 15 _ _ rfl; have := R705.1 16 _ _ rfl; have := R705.1 19 _ _ rfl; omega) (by have := R705.1 15 _ _ rfl; have := R705.1 16 _ _ rfl; have := R705.1 19 _ _ rfl; omega) I700.start) rfl (Nat.le_of_ble_eq_true rfl) (Nat.le_of_ble_eq_true rfl) (Nat.le_of_ble_eq_true rfl) (hst := rfl) (fun b920r M921 n922 b920 => ?_)
              obtain ⟨T923, J924, v927, rfl, R928, f929, f930, f931, f932, f933, f934⟩ := b920
              have I925 := I700.call J924 (tm_sub (by decide)) (Or.inl rfl)
              have t935 := J924.up t707
              have := f929.2.1
              have f936 := Im.i f929.w.2
              have f937 := Im.i f929.w2
              have z938 := (rv_c I700 J924 (I700.up h_o0) (k := 19) rfl).trans z711
              have z939 := (rv_c I700 J924 (I700.up h_o0) (k := 22) rfl).trans z712
              have z940 := (rv_c I700 J924 (I700.up h_o0) (k := 24) rfl).trans z713
              have z941 := (ra_call I700 J924 (I700.up h_o0) (k := 5) rfl rfl rfl 44).trans z714
              have E942 : rE M0 M921 o0 0 1 := E716.trans f929 (by decide) (yR.2 5 _ _ rfl 44).1 (by decide) (by decide)
              have h943 : (880 + ra M696 o0 6 44).toNat = (880 + ra M0 o0 6 44).toNat := by omega
              rw [h943] at f932 f933 f934
              have K944 : rK M0 M921 o0 ((880 + ra M0 o0 6 44).toNat) := K717.trans f934
              have K945 : nN M921 o0 := K718.same (sA_c I700 J924 (I700.up h_o0) (by decide)) (sF_c I700 J924 (I700.up h_o0) (by decide))
              clear z711 z712 z713
              have q946 := J924.keep t707 (by decide) q719
              have t947 := J924.up t720
              have q948 := J924.keep t707 (by decide) q721
              refine mv_istore_n (lv' := [(3, .int v927), (2, .int v702), (1, .int v10), (0, .ref o0)]) d_TrustDeskModel_readClause_110 rfl (by decide) rfl ?_
              refine mv_iload_n d_TrustDeskModel_readClause_111 rfl rfl ?_
              have := mz_hi v10
              refine mv_if_eqZ (tgt := 123) (a := v10.toInt) d_TrustDeskModel_readClause_112 (by decide) rfl (fun b949 => ?_) (fun b949 => absurd b949 (by omega))
              refine mv_iload_n d_TrustDeskModel_readClause_123 rfl rfl ?_
              have := mz_hi v702
              refine mv_if_eqZ (tgt := 135) (a := v702.toInt) d_TrustDeskModel_readClause_124 (by decide) rfl (fun b950 => absurd b950 (by omega)) (fun b950 => ?_)
              refine mv_aload_n d_TrustDeskModel_readClause_127 rfl rfl ?_
              refine mv_iload_n d_TrustDeskModel_readClause_128 rfl rfl ?_
              obtain ⟨_, b957, -⟩ := I925.1 _ _ t935
              refine mv_callV (kc' := 0) (ks' := 0) (As := [.int v927]) (st9 := [.int v927, .ref o0]) d_TrustDeskModel_readClause_129 lV_TrustDeskModel_348 b957 rfl (tc_TrustDeskModel_readMarks_x (d := (d + 22)) (x9 := x9) (o0 := o0) (x1 := v927) t935 R928 E942.1 (E942.s yS (by decide)) (by have := R928.1 15 _ _ rfl; have := R928.1 16 _ _ rfl; have := R928.1 19 _ _ rfl; omega) I925.start) rfl (Nat.le_of_ble_eq_true rfl) (Nat.le_of_ble_eq_true rfl) (Nat.le_of_ble_eq_true rfl) (hst := rfl) (fun b951r M952 n953 b951 => ?_)
              obtain ⟨T954, J955, rfl, R958, f959, f960, f961⟩ := b951
              have I956 := I925.call J955 (tm_sub (by decide)) (Or.inl rfl)
              have t962 := J955.up t935
              have := f959.2.1
              have f963 := Im.i f959.w.2
              have f964 := Im.i f959.w2
              have z965 := (rv_c I925 J955 (I925.up h_o0) (k := 22) rfl).trans z939
              have z966 := (rv_c I925 J955 (I925.up h_o0) (k := 24) rfl).trans z940
              have z967 := (ra_call I925 J955 (I925.up h_o0) (k := 5) rfl rfl rfl 44).trans z941
              have z968 := (ra_call I925 J955 (I925.up h_o0) (k := 6) rfl rfl rfl 44)
              have z969 := (ra_call I925 J955 (I925.up h_o0) (k := 7) rfl rfl rfl ((880 + ra M0 o0 6 44).toNat))
              have z970 := (ra_call I925 J955 (I925.up h_o0) (k := 10) rfl rfl rfl ((880 + ra M0 o0 6 44).toNat))
              have E971 : rE M0 M952 o0 0 1 := E942.trans f959 (by decide) (yR.2 5 _ _ rfl 44).1 (by decide) (by decide)
              have h972 : v927.toNatClampNeg = (880 + ra M0 o0 6 44).toNat := by have := mz_nat9 (i := v927) (by have := R928.1 15 _ _ rfl; have := R928.1 16 _ _ rfl; have := R928.1 19 _ _ rfl; omega); have := R928.1 15 _ _ rfl; have := R928.1 16 _ _ rfl; have := R928.1 19 _ _ rfl; omega
              rw [h972] at f960 f961
              have K973 : rK M0 M952 o0 ((880 + ra M0 o0 6 44).toNat) := K944.one8 (sA_c I925 J955 (I925.up h_o0) (by decide)) f960
              have K974 : nN M952 o0 := K945.same (sA_c I925 J955 (I925.up h_o0) (by decide)) (sF_c I925 J955 (I925.up h_o0) (by decide))
              clear z939 z940 z941
              have q975 := J955.keep t935 (by decide) q946
              have t976 := J955.up t947
              refine mv_goto (tgt := 165) d_TrustDeskModel_readClause_132 (by decide) ?_
              refine mv_aload_n d_TrustDeskModel_readClause_165 rfl rfl ?_
              refine mv_bipush (v := 59) d_TrustDeskModel_readClause_166 (by decide) ?_
              obtain ⟨_, b983, -⟩ := I956.1 _ _ t962
              have : (59 : Int32).toInt = 59 := by decide
              refine mv_callV (kc' := 0) (ks' := 0) (As := [.int 59]) (st9 := [.int 59, .ref o0]) d_TrustDeskModel_readClause_168 lV_TrustDeskModel_291 b983 rfl (tc_TrustDeskModel_wantSign_x (d := (d + 23)) (x9 := x9) (o0 := o0) (x1 := 59) t962 R958 E971.1 (E971.s yS (by decide)) I956.start) rfl (Nat.le_of_ble_eq_true rfl) (Nat.le_of_ble_eq_true rfl) (Nat.le_of_ble_eq_true rfl) (hst := rfl) (fun b977r M978 n979 b977 => ?_)
              obtain ⟨T980, J981, rfl, R984, f985⟩ := b977
              have I982 := I956.call J981 (tm_sub (by decide)) (Or.inl rfl)
              have t986 := J981.up t962
              have := f985.2.1
              have f987 := Im.i f985.w.2
              have f988 := Im.i f985.w2
              have z989 := (rv_c I956 J981 (I956.up h_o0) (k := 22) rfl).trans z965
              have z990 := (rv_c I956 J981 (I956.up h_o0) (k := 24) rfl).trans z966
              have z991 := (ra_call I956 J981 (I956.up h_o0) (k := 5) rfl rfl rfl 44).trans z967
              have z992 := (ra_call I956 J981 (I956.up h_o0) (k := 6) rfl rfl rfl 44).trans z968
              have z993 := (ra_call I956 J981 (I956.up h_o0) (k := 7) rfl rfl rfl ((880 + ra M0 o0 6 44).toNat)).trans z969
              have z994 := (ra_call I956 J981 (I956.up h_o0) (k := 10) rfl rfl rfl ((880 + ra M0 o0 6 44).toNat)).trans z970
              have z995 := (ra_call I956 J981 (I956.up h_o0) (k := 8) rfl rfl rfl ((880 + ra M0 o0 6 44).toNat))
              have E996 : rE M0 M978 o0 0 2 := E971.trans f985 (by decide) (yR.2 5 _ _ rfl 44).1 (by decide) (by decide)
              have K997 : rK M0 M978 o0 ((880 + ra M0 o0 6 44).toNat) := K973.same (sA_c I956 J981 (I956.up h_o0) (by decide))
              have K998 : nN M978 o0 := K974.same (sA_c I956 J981 (I956.up h_o0) (by decide)) (sF_c I956 J981 (I956.up h_o0) (by decide))
              clear z965 z966 z967 z968 z969 z970
              have q999 := J981.keep t962 (by decide) q975
              have t1000 := J981.up t976
              refine mv_aload_n d_TrustDeskModel_readClause_171 rfl rfl ?_
              obtain ⟨a1002, q1001, t_a1002⟩ := tm_atR I982 t986 (k := 12) rfl
              refine tr_getK q1001 d_TrustDeskModel_readClause_172 f_TrustDeskModel_41_13 ?_
              refine mv_iload_n d_TrustDeskModel_readClause_175 rfl rfl ?_
              refine mv_aload_n d_TrustDeskModel_readClause_176 rfl rfl ?_
              obtain ⟨a1004, q1003, t_a1004⟩ := tm_atR I982 t986 (k := 5) rfl
              refine tr_getK q1003 d_TrustDeskModel_readClause_177 f_TrustDeskModel_20_13 ?_
              refine mv_bipush (v := 44) d_TrustDeskModel_readClause_180 (by decide) ?_
              refine tr_ialdR (o := o0) (k := 5) I982 q1003 t_a1004 (by decide) d_TrustDeskModel_readClause_182 (by unfold vp_in; decide) (fun v1005 e1006 => ?_)
              have := R984.a (k := 5) rfl (44 : Int32).toNatClampNeg
              have : v1005.toInt = ra M978 o0 5 44 := e1006
              have : v1005.toInt = _ := Eq.trans e1006 z991
              refine tr_iastR (k := 12) I982 R984 (I982.up h_o0) q1001 t_a1002 (by decide) (by decide) (fun lo hi h => by cases h; have := R984.1 15 _ _ rfl; have := R984.1 16 _ _ rfl; have := R984.1 19 _ _ rfl; exact ⟨by show (0 : Int) ≤ v1005.toInt; omega, by show v1005.toInt ≤ (400 : Int); omega⟩) (Or.inl (by decide)) d_TrustDeskModel_readClause_183 (vp_in_iff.mpr (by have := R984.1 15 _ _ rfl; have := R984.1 16 _ _ rfl; have := R984.1 19 _ _ rfl; omega)) (fun M1007 I1008 K1009 R1010 E1011 A1012 V1013 => ?_)
              have z1014 := (V1013 15)
              have z1015 := (V1013 16)
              have z1016 := (V1013 17)
              have z1017 := (V1013 19)
              have z1018 := (V1013 22).trans z989
              have z1019 := (V1013 24).trans z990
              have z1020 := (A1012 5 (by decide) rfl 44).trans z991
              have z1021 := (A1012 6 (by decide) rfl 44).trans z992
              have z1022 := (A1012 7 (by decide) rfl ((880 + ra M0 o0 6 44).toNat)).trans z993
              have z1023 := (A1012 10 (by decide) rfl ((880 + ra M0 o0 6 44).toNat)).trans z994
              have z1024 := (A1012 8 (by decide) rfl ((880 + ra M0 o0 6 44).toNat)).trans z995
              have E1025 : rE M0 M1007 o0 0 2 := E996.same (fun k _ _ => V1013 k) (fun k h1 h2 => A1012 k (by omega) (by rcases (show k = 4 ∨ k = 5 by omega) with rfl | rfl <;> rfl))
              have h1026 : (880 + ra M0 o0 6 44).toNat = v927.toNatClampNeg := by have := mz_nat9 (i := v927) (by have := R984.1 15 _ _ rfl; have := R984.1 16 _ _ rfl; have := R984.1 19 _ _ rfl; omega); have := R984.1 15 _ _ rfl; have := R984.1 16 _ _ rfl; have := R984.1 19 _ _ rfl; omega
              have z1027 : ra M1007 o0 12 ((880 + ra M0 o0 6 44).toNat) = v1005.toInt := (E1011 _).trans (if_pos h1026)
              have K1028 : rK M0 M1007 o0 ((880 + ra M0 o0 6 44).toNat) := K997.st A1012 E1011 (by have := mz_nat9 (i := v927) (by have := R984.1 15 _ _ rfl; have := R984.1 16 _ _ rfl; have := R984.1 19 _ _ rfl; omega); have := R984.1 15 _ _ rfl; have := R984.1 16 _ _ rfl; have := R984.1 19 _ _ rfl; omega)
              have K1029 : nN M1007 o0 := K998.same (sA_a A1012 (by decide)) (sF_a V1013)
              clear z989 z990 z991 z992 z993 z994 z995
              exact mv_vret d_TrustDeskModel_readClause_184 rfl ⟨_, I1008, rfl, R1010, (rW.of E1025.1 (E1025.s yS (by decide)) (fun w9 => by have u91 : rv M978 o0 19 = 0 := (by omega); have := f987.o u91; have := f988.o u91; have u92 : rv M952 o0 19 = 0 := (by omega); have := f963.o u92; have := f964.o u92; have u93 : rv M921 o0 19 = 0 := (by omega); have := f936.o u93; have := f937.o u93; exact rG.step yG yR E1025 w9 K1028 (by have := yR.2 6 _ _ rfl 44; omega) (by have := R1010.1 15 _ _ rfl; have := R1010.1 16 _ _ rfl; have := R1010.1 19 _ _ rfl; omega) (by have := R1010.1 15 _ _ rfl; have := R1010.1 16 _ _ rfl; have := R1010.1 19 _ _ rfl; omega) (fun h9 => by exfalso; have := R1010.1 15 _ _ rfl; have := R1010.1 16 _ _ rfl; have := R1010.1 19 _ _ rfl; omega) (fun h9 => (by have := R1010.1 15 _ _ rfl; have := R1010.1 16 _ _ rfl; have := R1010.1 19 _ _ rfl; omega)) (by have := R1010.1 15 _ _ rfl; have := R1010.1 16 _ _ rfl; have := R1010.1 19 _ _ rfl; omega) K1029)), (rO.of E1025 K1028 (by have := yR.2 6 _ _ rfl 44; omega)), ⟨E1025.2.1, fun w9 => by skip; have := E1025.w2 w9; omega⟩, (fun w9 => by have u91 : rv M978 o0 19 = 0 := (by omega); have := f987.o u91; have := f988.o u91; have u92 : rv M952 o0 19 = 0 := (by omega); have := f963.o u92; have := f964.o u92; have u93 : rv M921 o0 19 = 0 := (by omega); have := f936.o u93; have := f937.o u93; omega), (fun h9 _ => absurd h9 (f16.o (by have := R1010.1 15 _ _ rfl; have := R1010.1 16 _ _ rfl; have := R1010.1 19 _ _ rfl; omega))), (by have := R1010.1 15 _ _ rfl; have := R1010.1 16 _ _ rfl; have := R1010.1 19 _ _ rfl; omega)⟩
      · refine mv_aload_n d_TrustDeskModel_readClause_32 rfl rfl ?_
        refine mv_iconst (v := 1) d_TrustDeskModel_readClause_33 (by decide) ?_
        obtain ⟨_, b1036, -⟩ := I639.1 _ _ t646
        have : (1 : Int32).toInt = 1 := by decide
        refine mv_callV (kc' := 0) (ks' := 0) (As := [.int 1]) (st9 := [.int 1, .ref o0]) d_TrustDeskModel_readClause_34 lV_TrustDeskModel_240 b1036 rfl (tc_TrustDeskModel_fails_x (d := (d + 25)) (x9 := x9) (o0 := o0) (x1 := 1) t646 R644 (by decide) I639.start) rfl (Nat.le_of_ble_eq_true rfl) (Nat.le_of_ble_eq_true rfl) (Nat.le_of_ble_eq_true rfl) (hst := rfl) (fun b1030r M1031 n1032 b1030 => ?_)
        obtain ⟨T1033, J1034, rfl, R1037, f1038⟩ := b1030
        have I1035 := I639.call J1034 (tm_sub (by decide)) (Or.inl rfl)
        have t1039 := J1034.up t646
        have z1040 := (rv_c I639 J1034 (I639.up h_o0) (k := 15) rfl).trans z647
        have z1041 := (rv_c I639 J1034 (I639.up h_o0) (k := 16) rfl).trans z648
        have z1042 := (rv_c I639 J1034 (I639.up h_o0) (k := 17) rfl).trans z649
        have z1043 := (rv_c I639 J1034 (I639.up h_o0) (k := 22) rfl).trans z651
        have z1044 := (rv_c I639 J1034 (I639.up h_o0) (k := 24) rfl).trans z652
        have z1045 := (ra_call I639 J1034 (I639.up h_o0) (k := 5) rfl rfl rfl 44).trans z653
        have z1046 := (ra_call I639 J1034 (I639.up h_o0) (k := 6) rfl rfl rfl 44).trans z654
        have E1047 : rE M0 M1031 o0 0 0 := E655.fails (rE_hv I639 J1034 (I639.up h_o0) 15 18 (by decide)) (rE_ha I639 J1034 (I639.up h_o0) (by decide)) f1038 0 0
        have K1048 : rK M0 M1031 o0 ((880 + ra M0 o0 6 44).toNat) := K656.same (sA_c I639 J1034 (I639.up h_o0) (by decide))
        have K1049 : nN M1031 o0 := K657.same (sA_c I639 J1034 (I639.up h_o0) (by decide)) (sF_c I639 J1034 (I639.up h_o0) (by decide))
        clear z647 z648 z649 z651 z652 z653 z654
        refine mv_goto (tgt := 70) d_TrustDeskModel_readClause_37 (by decide) ?_
        refine mv_aload_n d_TrustDeskModel_readClause_70 rfl rfl ?_
        obtain ⟨_, b1050, -⟩ := I1035.1 _ _ t1039
        refine mv_callV (kc1 := 0) (ks1 := 0) (kc' := 0) (ks' := 0) (As := []) (st9 := [.ref o0]) d_TrustDeskModel_readClause_71 lV_TrustDeskModel_230 b1050 rfl (mj_enter (by decide) (Nat.le_of_ble_eq_true rfl) ?_) rfl (Nat.le_of_ble_eq_true rfl) (Nat.le_of_ble_eq_true rfl) (Nat.le_of_ble_eq_true rfl) (hst := rfl) (fun _ _ _ h => h)
        refine mv_aload_n d_TrustDeskModel_isWell_0 rfl rfl ?_
        obtain ⟨v1052, q1051⟩ := tm_atI I1035 t1039 (k := 19) rfl
        refine tr_getK q1051 d_TrustDeskModel_isWell_1 f_TrustDeskModel_224_13 ?_
        have := R1037.f (k := 19) q1051 rfl
        have := tm_rv q1051
        refine mv_if_neZ (tgt := 11) (a := v1052.toInt) d_TrustDeskModel_isWell_4 (by decide) rfl (fun b1053 => ?_) (fun b1053 => ?_)
        · refine mv_iconst (v := 0) d_TrustDeskModel_isWell_11 (by decide) ?_
          refine mv_iret d_TrustDeskModel_isWell_12 rfl (by decide) ?_
          refine mv_if_ne_f (tgt := 78) d_TrustDeskModel_readClause_74 (by decide) (by decide) ?_
          exact mv_vret d_TrustDeskModel_readClause_77 rfl ⟨_, I1035, rfl, R1037, (rW.of E1047.1 (fun h9 => absurd h9 (by have := R1037.1 15 _ _ rfl; have := R1037.1 16 _ _ rfl; have := R1037.1 19 _ _ rfl; omega)) (fun h9 => absurd h9 (by have := R1037.1 15 _ _ rfl; have := R1037.1 16 _ _ rfl; have := R1037.1 19 _ _ rfl; omega))), (rO.of E1047 K1048 (by have := yR.2 6 _ _ rfl 44; omega)), ⟨E1047.2.1, fun w9 => by skip; have := E1047.w2 w9; omega⟩, (fun w9 => by skip; omega), (fun _ h9 => absurd h9 (by have := R1037.1 15 _ _ rfl; have := R1037.1 16 _ _ rfl; have := R1037.1 19 _ _ rfl; omega)), (by have := R1037.1 15 _ _ rfl; have := R1037.1 16 _ _ rfl; have := R1037.1 19 _ _ rfl; omega)⟩
        · exfalso
          have := R1037.1 15 _ _ rfl; have := R1037.1 16 _ _ rfl; have := R1037.1 19 _ _ rfl; omega
