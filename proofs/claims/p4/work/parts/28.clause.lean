abbrev kY_TrustDeskModel_readClause : mj_Y := (⟨"TrustDeskModel", "readClause", "()V"⟩, prog_14_method_38_code, 4, (Option.none : Option Jvm.ClassFile.FieldType))
theorem d_TrustDeskModel_readClause_0 : decode kY_TrustDeskModel_readClause.2.1 0 = .ok (.aload_n 0, 1) := by decide +kernel
theorem d_TrustDeskModel_readClause_1 : decode kY_TrustDeskModel_readClause.2.1 1 = .ok (.ldc_w 336, 3) := by decide +kernel
theorem d_TrustDeskModel_readClause_4 : decode kY_TrustDeskModel_readClause.2.1 4 = .ok (.invokevirtual 244, 3) := by decide +kernel
def w_TrustDeskModel_isWord_s1_42_x : List Nat := []
set_option maxHeartbeats 100000000 in theorem tc_TrustDeskModel_isWord_s1_42_x {g : mj_G} {l : Launch} {d : Nat} {T0 : tm_H} {M0 : mj_M} {n0 x9 : Nat} {o0 : Nat} (h_o0 : T0 o0 = some (0, 13, 0)) (yR : rI M0 o0) (I0 : tm_I tm_FT (tm_in w_TrustDeskModel_isWord_s1_42_x) x9 T0 M0 n0 T0 M0 n0) : mj_Met g l kY_TrustDeskModel_isWord (d + 4) [.ref o0, .ref 42] M0 n0 0 0 (tm_Q tm_FT (tm_in w_TrustDeskModel_isWord_s1_42_x) x9 T0 M0 n0 (fun r _ M => ∃ v : Int32, r = some (.int v) ∧ 0 ≤ v.toInt ∧ v.toInt ≤ 1 ∧ rI M o0 ∧ (v.toInt = 1 → rv M0 o0 17 = 3) ∧ (v.toInt = 1 → rwE M0 o0) ∧ (v.toInt = 0 → ¬ rwE M0 o0))) := by
  refine mj_enter (by decide) (Nat.le_of_ble_eq_true rfl) ?_
  refine mv_aload_n d_TrustDeskModel_isWord_0 rfl rfl ?_
  obtain ⟨v2, q1⟩ := tm_atI I0 h_o0 (k := 17) rfl
  refine tr_getK q1 d_TrustDeskModel_isWord_1 f_TrustDeskModel_198_13 ?_
  have := tm_rv q1
  refine mv_iconst (v := 3) d_TrustDeskModel_isWord_4 (by decide) ?_
  have := mz_hi v2
  refine mv_icmp_neZ (tgt := 24) (a := v2.toInt) (b := 3) d_TrustDeskModel_isWord_5 (by decide) rfl (by decide) (fun b3 => ?_) (fun b3 => ?_)
  · refine mv_iconst (v := 0) d_TrustDeskModel_isWord_24 (by decide) ?_
    exact mv_iret d_TrustDeskModel_isWord_25 rfl (by decide) ⟨_, I0, _, rfl, by decide, by decide, yR, (fun h => absurd h (by decide)), (fun h => absurd h (by decide)), (fun _ h => by obtain ⟨h1, h2, h3, h4, h5⟩ := h; have := yR.1 15 _ _ rfl; have := yR.1 16 _ _ rfl; have := yR.1 19 _ _ rfl; omega)⟩
  · refine mv_aload_n d_TrustDeskModel_isWord_8 rfl rfl ?_
    obtain ⟨v5, q4⟩ := tm_atI I0 h_o0 (k := 15) rfl
    refine tr_getK q4 d_TrustDeskModel_isWord_9 f_TrustDeskModel_192_13 ?_
    have := yR.f (k := 15) q4 rfl
    have := tm_rv q4
    refine mv_aload_n d_TrustDeskModel_isWord_12 rfl rfl ?_
    obtain ⟨v7, q6⟩ := tm_atI I0 h_o0 (k := 16) rfl
    refine tr_getK q6 d_TrustDeskModel_isWord_13 f_TrustDeskModel_195_13 ?_
    have := yR.f (k := 16) q6 rfl
    have := tm_rv q6
    refine mv_isub d_TrustDeskModel_isWord_16 ?_
    refine mv_aload_n d_TrustDeskModel_isWord_17 rfl rfl ?_
    refine mv_slenK (i := 32) (v := 3) d_TrustDeskModel_isWord_18 lV_TrustDeskModel_214 (by decide) rfl (by decide) (Nat.le_of_ble_eq_true rfl) ?_
    have b8 : (v5 - v7 : Int32).toInt = (v5.toInt - v7.toInt) := mz_sub2 rfl rfl (by have := yR.1 15 _ _ rfl; have := yR.1 16 _ _ rfl; have := yR.1 19 _ _ rfl; omega) (by have := yR.1 15 _ _ rfl; have := yR.1 16 _ _ rfl; have := yR.1 19 _ _ rfl; omega)
    have := mz_hi (v5 - v7)
    refine mv_icmp_eqZ (tgt := 26) (a := (v5 - v7).toInt) (b := 3) d_TrustDeskModel_isWord_21 (by decide) rfl (by decide) (fun b9 => ?_) (fun b9 => ?_)
    · refine mv_iconst (v := 0) d_TrustDeskModel_isWord_26 (by decide) ?_
      refine mv_istore_n (lv' := [(2, .int 0), (0, .ref o0), (1, .ref 42)]) d_TrustDeskModel_isWord_27 rfl (by decide) rfl ?_
      refine mv_iload_n d_TrustDeskModel_isWord_28 rfl rfl ?_
      refine mv_aload_n d_TrustDeskModel_isWord_29 rfl rfl ?_
      refine mv_slenK (i := 32) (v := 3) d_TrustDeskModel_isWord_30 lV_TrustDeskModel_214 (by decide) rfl (by decide) (Nat.le_of_ble_eq_true rfl) ?_
      refine mv_icmp_ge_f (tgt := 63) d_TrustDeskModel_isWord_33 (by decide) (by decide) ?_
      refine mv_aload_n d_TrustDeskModel_isWord_36 rfl rfl ?_
      obtain ⟨a11, q10, t_a11⟩ := tm_atR I0 h_o0 (k := 13) rfl
      refine tr_getK q10 d_TrustDeskModel_isWord_37 f_TrustDeskModel_44_13 ?_
      refine mv_aload_n d_TrustDeskModel_isWord_40 rfl rfl ?_
      refine tr_getK (k := 16) q6 d_TrustDeskModel_isWord_41 f_TrustDeskModel_195_13 ?_
      refine mv_iload_n d_TrustDeskModel_isWord_44 rfl rfl ?_
      refine mv_iadd d_TrustDeskModel_isWord_45 ?_
      have b12 : (v7 + 0 : Int32).toInt = (v7.toInt + 0) := mz_add2 rfl (by decide) (by have := yR.1 15 _ _ rfl; have := yR.1 16 _ _ rfl; have := yR.1 19 _ _ rfl; omega) (by have := yR.1 15 _ _ rfl; have := yR.1 16 _ _ rfl; have := yR.1 19 _ _ rfl; omega)
      refine tr_baldR (o := o0) (k := 13) I0 q10 t_a11 (by decide) d_TrustDeskModel_isWord_46 (vp_in_iff.mpr (by have := yR.1 15 _ _ rfl; have := yR.1 16 _ _ rfl; have := yR.1 19 _ _ rfl; omega)) (fun v13 e14 => ?_)
      have := yR.a (k := 13) rfl ((v7 + 0) : Int32).toNatClampNeg
      have h15 : (v7 + 0).toNatClampNeg = (rv M0 o0 16).toNat + 0 := by have := mz_nat9 (i := (v7 + 0)) (by have := yR.1 15 _ _ rfl; have := yR.1 16 _ _ rfl; have := yR.1 19 _ _ rfl; omega); have := yR.1 15 _ _ rfl; have := yR.1 16 _ _ rfl; have := yR.1 19 _ _ rfl; omega
      have : v13.toInt = ra M0 o0 13 ((rv M0 o0 16).toNat + 0) := by rw [e14, h15]
      refine mv_aload_n d_TrustDeskModel_isWord_47 rfl rfl ?_
      refine mv_iload_n d_TrustDeskModel_isWord_48 rfl rfl ?_
      refine mv_schC (i := 32) (v := 101) d_TrustDeskModel_isWord_49 lV_TrustDeskModel_220 (by decide) rfl (by decide) (by decide) (Nat.le_of_ble_eq_true rfl) (by decide) ?_
      have := mz_hi v13
      refine mv_icmp_eqZ (tgt := 57) (a := v13.toInt) (b := 101) d_TrustDeskModel_isWord_52 (by decide) rfl (by decide) (fun b16 => ?_) (fun b16 => ?_)
      · refine mv_iinc (v := 1) (lv' := [(2, .int 1), (0, .ref o0), (1, .ref 42)]) d_TrustDeskModel_isWord_57 rfl (by decide) (by decide) rfl ?_
        refine mv_goto (tgt := 28) d_TrustDeskModel_isWord_60 (by decide) ?_
        refine mv_iload_n d_TrustDeskModel_isWord_28 rfl rfl ?_
        refine mv_aload_n d_TrustDeskModel_isWord_29 rfl rfl ?_
        refine mv_slenK (i := 32) (v := 3) d_TrustDeskModel_isWord_30 lV_TrustDeskModel_214 (by decide) rfl (by decide) (Nat.le_of_ble_eq_true rfl) ?_
        refine mv_icmp_ge_f (tgt := 63) d_TrustDeskModel_isWord_33 (by decide) (by decide) ?_
        refine mv_aload_n d_TrustDeskModel_isWord_36 rfl rfl ?_
        refine tr_getK (k := 13) q10 d_TrustDeskModel_isWord_37 f_TrustDeskModel_44_13 ?_
        refine mv_aload_n d_TrustDeskModel_isWord_40 rfl rfl ?_
        refine tr_getK (k := 16) q6 d_TrustDeskModel_isWord_41 f_TrustDeskModel_195_13 ?_
        refine mv_iload_n d_TrustDeskModel_isWord_44 rfl rfl ?_
        refine mv_iadd d_TrustDeskModel_isWord_45 ?_
        have b17 : (v7 + 1 : Int32).toInt = (v7.toInt + 1) := mz_add2 rfl (by decide) (by have := yR.1 15 _ _ rfl; have := yR.1 16 _ _ rfl; have := yR.1 19 _ _ rfl; omega) (by have := yR.1 15 _ _ rfl; have := yR.1 16 _ _ rfl; have := yR.1 19 _ _ rfl; omega)
        refine tr_baldR (o := o0) (k := 13) I0 q10 t_a11 (by decide) d_TrustDeskModel_isWord_46 (vp_in_iff.mpr (by have := yR.1 15 _ _ rfl; have := yR.1 16 _ _ rfl; have := yR.1 19 _ _ rfl; omega)) (fun v18 e19 => ?_)
        have := yR.a (k := 13) rfl ((v7 + 1) : Int32).toNatClampNeg
        have h20 : (v7 + 1).toNatClampNeg = (rv M0 o0 16).toNat + 1 := by have := mz_nat9 (i := (v7 + 1)) (by have := yR.1 15 _ _ rfl; have := yR.1 16 _ _ rfl; have := yR.1 19 _ _ rfl; omega); have := yR.1 15 _ _ rfl; have := yR.1 16 _ _ rfl; have := yR.1 19 _ _ rfl; omega
        have : v18.toInt = ra M0 o0 13 ((rv M0 o0 16).toNat + 1) := by rw [e19, h20]
        refine mv_aload_n d_TrustDeskModel_isWord_47 rfl rfl ?_
        refine mv_iload_n d_TrustDeskModel_isWord_48 rfl rfl ?_
        refine mv_schC (i := 32) (v := 110) d_TrustDeskModel_isWord_49 lV_TrustDeskModel_220 (by decide) rfl (by decide) (by decide) (Nat.le_of_ble_eq_true rfl) (by decide) ?_
        have := mz_hi v18
        refine mv_icmp_eqZ (tgt := 57) (a := v18.toInt) (b := 110) d_TrustDeskModel_isWord_52 (by decide) rfl (by decide) (fun b21 => ?_) (fun b21 => ?_)
        · refine mv_iinc (v := 2) (lv' := [(2, .int 2), (0, .ref o0), (1, .ref 42)]) d_TrustDeskModel_isWord_57 rfl (by decide) (by decide) rfl ?_
          refine mv_goto (tgt := 28) d_TrustDeskModel_isWord_60 (by decide) ?_
          refine mv_iload_n d_TrustDeskModel_isWord_28 rfl rfl ?_
          refine mv_aload_n d_TrustDeskModel_isWord_29 rfl rfl ?_
          refine mv_slenK (i := 32) (v := 3) d_TrustDeskModel_isWord_30 lV_TrustDeskModel_214 (by decide) rfl (by decide) (Nat.le_of_ble_eq_true rfl) ?_
          refine mv_icmp_ge_f (tgt := 63) d_TrustDeskModel_isWord_33 (by decide) (by decide) ?_
          refine mv_aload_n d_TrustDeskModel_isWord_36 rfl rfl ?_
          refine tr_getK (k := 13) q10 d_TrustDeskModel_isWord_37 f_TrustDeskModel_44_13 ?_
          refine mv_aload_n d_TrustDeskModel_isWord_40 rfl rfl ?_
          refine tr_getK (k := 16) q6 d_TrustDeskModel_isWord_41 f_TrustDeskModel_195_13 ?_
          refine mv_iload_n d_TrustDeskModel_isWord_44 rfl rfl ?_
          refine mv_iadd d_TrustDeskModel_isWord_45 ?_
          have b22 : (v7 + 2 : Int32).toInt = (v7.toInt + 2) := mz_add2 rfl (by decide) (by have := yR.1 15 _ _ rfl; have := yR.1 16 _ _ rfl; have := yR.1 19 _ _ rfl; omega) (by have := yR.1 15 _ _ rfl; have := yR.1 16 _ _ rfl; have := yR.1 19 _ _ rfl; omega)
          refine tr_baldR (o := o0) (k := 13) I0 q10 t_a11 (by decide) d_TrustDeskModel_isWord_46 (vp_in_iff.mpr (by have := yR.1 15 _ _ rfl; have := yR.1 16 _ _ rfl; have := yR.1 19 _ _ rfl; omega)) (fun v23 e24 => ?_)
          have := yR.a (k := 13) rfl ((v7 + 2) : Int32).toNatClampNeg
          have h25 : (v7 + 2).toNatClampNeg = (rv M0 o0 16).toNat + 2 := by have := mz_nat9 (i := (v7 + 2)) (by have := yR.1 15 _ _ rfl; have := yR.1 16 _ _ rfl; have := yR.1 19 _ _ rfl; omega); have := yR.1 15 _ _ rfl; have := yR.1 16 _ _ rfl; have := yR.1 19 _ _ rfl; omega
          have : v23.toInt = ra M0 o0 13 ((rv M0 o0 16).toNat + 2) := by rw [e24, h25]
          refine mv_aload_n d_TrustDeskModel_isWord_47 rfl rfl ?_
          refine mv_iload_n d_TrustDeskModel_isWord_48 rfl rfl ?_
          refine mv_schC (i := 32) (v := 100) d_TrustDeskModel_isWord_49 lV_TrustDeskModel_220 (by decide) rfl (by decide) (by decide) (Nat.le_of_ble_eq_true rfl) (by decide) ?_
          have := mz_hi v23
          refine mv_icmp_eqZ (tgt := 57) (a := v23.toInt) (b := 100) d_TrustDeskModel_isWord_52 (by decide) rfl (by decide) (fun b26 => ?_) (fun b26 => ?_)
          · refine mv_iinc (v := 3) (lv' := [(2, .int 3), (0, .ref o0), (1, .ref 42)]) d_TrustDeskModel_isWord_57 rfl (by decide) (by decide) rfl ?_
            refine mv_goto (tgt := 28) d_TrustDeskModel_isWord_60 (by decide) ?_
            refine mv_iload_n d_TrustDeskModel_isWord_28 rfl rfl ?_
            refine mv_aload_n d_TrustDeskModel_isWord_29 rfl rfl ?_
            refine mv_slenK (i := 32) (v := 3) d_TrustDeskModel_isWord_30 lV_TrustDeskModel_214 (by decide) rfl (by decide) (Nat.le_of_ble_eq_true rfl) ?_
            refine mv_icmp_ge_t (tgt := 63) d_TrustDeskModel_isWord_33 (by decide) (by decide) ?_
            refine mv_iconst (v := 1) d_TrustDeskModel_isWord_63 (by decide) ?_
            exact mv_iret d_TrustDeskModel_isWord_64 rfl (by decide) ⟨_, I0, _, rfl, by decide, by decide, yR, (fun _ => by have := yR.1 15 _ _ rfl; have := yR.1 16 _ _ rfl; have := yR.1 19 _ _ rfl; omega), (fun _ => ⟨by have := yR.1 15 _ _ rfl; have := yR.1 16 _ _ rfl; have := yR.1 19 _ _ rfl; omega, by have := yR.1 15 _ _ rfl; have := yR.1 16 _ _ rfl; have := yR.1 19 _ _ rfl; omega, by have := yR.1 15 _ _ rfl; have := yR.1 16 _ _ rfl; have := yR.1 19 _ _ rfl; omega, by have := yR.1 15 _ _ rfl; have := yR.1 16 _ _ rfl; have := yR.1 19 _ _ rfl; omega, by have := yR.1 15 _ _ rfl; have := yR.1 16 _ _ rfl; have := yR.1 19 _ _ rfl; omega⟩), (fun h => absurd h (by decide))⟩
          · refine mv_iconst (v := 0) d_TrustDeskModel_isWord_55 (by decide) ?_
            exact mv_iret d_TrustDeskModel_isWord_56 rfl (by decide) ⟨_, I0, _, rfl, by decide, by decide, yR, (fun h => absurd h (by decide)), (fun h => absurd h (by decide)), (fun _ h => by obtain ⟨h1, h2, h3, h4, h5⟩ := h; have := yR.1 15 _ _ rfl; have := yR.1 16 _ _ rfl; have := yR.1 19 _ _ rfl; omega)⟩
        · refine mv_iconst (v := 0) d_TrustDeskModel_isWord_55 (by decide) ?_
          exact mv_iret d_TrustDeskModel_isWord_56 rfl (by decide) ⟨_, I0, _, rfl, by decide, by decide, yR, (fun h => absurd h (by decide)), (fun h => absurd h (by decide)), (fun _ h => by obtain ⟨h1, h2, h3, h4, h5⟩ := h; have := yR.1 15 _ _ rfl; have := yR.1 16 _ _ rfl; have := yR.1 19 _ _ rfl; omega)⟩
      · refine mv_iconst (v := 0) d_TrustDeskModel_isWord_55 (by decide) ?_
        exact mv_iret d_TrustDeskModel_isWord_56 rfl (by decide) ⟨_, I0, _, rfl, by decide, by decide, yR, (fun h => absurd h (by decide)), (fun h => absurd h (by decide)), (fun _ h => by obtain ⟨h1, h2, h3, h4, h5⟩ := h; have := yR.1 15 _ _ rfl; have := yR.1 16 _ _ rfl; have := yR.1 19 _ _ rfl; omega)⟩
    · refine mv_iconst (v := 0) d_TrustDeskModel_isWord_24 (by decide) ?_
      exact mv_iret d_TrustDeskModel_isWord_25 rfl (by decide) ⟨_, I0, _, rfl, by decide, by decide, yR, (fun h => absurd h (by decide)), (fun h => absurd h (by decide)), (fun _ h => by obtain ⟨h1, h2, h3, h4, h5⟩ := h; have := yR.1 15 _ _ rfl; have := yR.1 16 _ _ rfl; have := yR.1 19 _ _ rfl; omega)⟩
theorem d_TrustDeskModel_readClause_7 : decode kY_TrustDeskModel_readClause.2.1 7 = .ok (.istore_n 1, 1) := by decide +kernel
theorem d_TrustDeskModel_readClause_8 : decode kY_TrustDeskModel_readClause.2.1 8 = .ok (.iload_n 1, 1) := by decide +kernel
theorem d_TrustDeskModel_readClause_9 : decode kY_TrustDeskModel_readClause.2.1 9 = .ok (.ifCond .ne 31, 3) := by decide +kernel
theorem d_TrustDeskModel_readClause_40 : decode kY_TrustDeskModel_readClause.2.1 40 = .ok (.aload_n 0, 1) := by decide +kernel
theorem d_TrustDeskModel_readClause_41 : decode kY_TrustDeskModel_readClause.2.1 41 = .ok (.getfield 23, 3) := by decide +kernel
theorem d_TrustDeskModel_readClause_44 : decode kY_TrustDeskModel_readClause.2.1 44 = .ok (.bipush 44, 2) := by decide +kernel
theorem d_TrustDeskModel_readClause_46 : decode kY_TrustDeskModel_readClause.2.1 46 = .ok (.iaload, 1) := by decide +kernel
theorem d_TrustDeskModel_readClause_47 : decode kY_TrustDeskModel_readClause.2.1 47 = .ok (.bipush 12, 2) := by decide +kernel
theorem d_TrustDeskModel_readClause_49 : decode kY_TrustDeskModel_readClause.2.1 49 = .ok (.if_icmp .eq 16, 3) := by decide +kernel
theorem d_TrustDeskModel_readClause_65 : decode kY_TrustDeskModel_readClause.2.1 65 = .ok (.aload_n 0, 1) := by decide +kernel
theorem d_TrustDeskModel_readClause_66 : decode kY_TrustDeskModel_readClause.2.1 66 = .ok (.iconst 4, 1) := by decide +kernel
theorem d_TrustDeskModel_readClause_67 : decode kY_TrustDeskModel_readClause.2.1 67 = .ok (.invokevirtual 240, 3) := by decide +kernel
theorem d_TrustDeskModel_readClause_70 : decode kY_TrustDeskModel_readClause.2.1 70 = .ok (.aload_n 0, 1) := by decide +kernel
theorem d_TrustDeskModel_readClause_71 : decode kY_TrustDeskModel_readClause.2.1 71 = .ok (.invokevirtual 230, 3) := by decide +kernel
theorem d_TrustDeskModel_readClause_74 : decode kY_TrustDeskModel_readClause.2.1 74 = .ok (.ifCond .ne 4, 3) := by decide +kernel
theorem d_TrustDeskModel_readClause_77 : decode kY_TrustDeskModel_readClause.2.1 77 = .ok (.return_, 1) := by decide +kernel
theorem d_TrustDeskModel_readClause_52 : decode kY_TrustDeskModel_readClause.2.1 52 = .ok (.iload_n 1, 1) := by decide +kernel
theorem d_TrustDeskModel_readClause_53 : decode kY_TrustDeskModel_readClause.2.1 53 = .ok (.ifCond .eq 17, 3) := by decide +kernel
theorem d_TrustDeskModel_readClause_56 : decode kY_TrustDeskModel_readClause.2.1 56 = .ok (.aload_n 0, 1) := by decide +kernel
theorem d_TrustDeskModel_readClause_57 : decode kY_TrustDeskModel_readClause.2.1 57 = .ok (.getfield 321, 3) := by decide +kernel
theorem d_TrustDeskModel_readClause_60 : decode kY_TrustDeskModel_readClause.2.1 60 = .ok (.bipush 6, 2) := by decide +kernel
theorem d_TrustDeskModel_readClause_62 : decode kY_TrustDeskModel_readClause.2.1 62 = .ok (.if_icmp .ne 8, 3) := by decide +kernel
theorem d_TrustDeskModel_readClause_78 : decode kY_TrustDeskModel_readClause.2.1 78 = .ok (.aload_n 0, 1) := by decide +kernel
theorem d_TrustDeskModel_readClause_79 : decode kY_TrustDeskModel_readClause.2.1 79 = .ok (.ldc_w 338, 3) := by decide +kernel
theorem d_TrustDeskModel_readClause_82 : decode kY_TrustDeskModel_readClause.2.1 82 = .ok (.invokevirtual 244, 3) := by decide +kernel
def w_TrustDeskModel_isWord_s1_43_x : List Nat := []
set_option maxHeartbeats 100000000 in theorem tc_TrustDeskModel_isWord_s1_43_x {g : mj_G} {l : Launch} {d : Nat} {T0 : tm_H} {M0 : mj_M} {n0 x9 : Nat} {o0 : Nat} (h_o0 : T0 o0 = some (0, 13, 0)) (yR : rI M0 o0) (I0 : tm_I tm_FT (tm_in w_TrustDeskModel_isWord_s1_43_x) x9 T0 M0 n0 T0 M0 n0) : mj_Met g l kY_TrustDeskModel_isWord (d + 4) [.ref o0, .ref 43] M0 n0 0 0 (tm_Q tm_FT (tm_in w_TrustDeskModel_isWord_s1_43_x) x9 T0 M0 n0 (fun r _ M => ∃ v : Int32, r = some (.int v) ∧ 0 ≤ v.toInt ∧ v.toInt ≤ 1 ∧ rI M o0 ∧ (v.toInt = 1 → rv M0 o0 17 = 3) ∧ (v.toInt = 1 → rv M0 o0 17 = 3 ∧ rv M0 o0 15 - rv M0 o0 16 = 4 ∧ ra M0 o0 13 ((rv M0 o0 16).toNat + 0) = 109 ∧ ra M0 o0 13 ((rv M0 o0 16).toNat + 1) = 97 ∧ ra M0 o0 13 ((rv M0 o0 16).toNat + 2) = 114 ∧ ra M0 o0 13 ((rv M0 o0 16).toNat + 3) = 107) ∧ (v.toInt = 0 → ¬ (rv M0 o0 17 = 3 ∧ rv M0 o0 15 - rv M0 o0 16 = 4 ∧ ra M0 o0 13 ((rv M0 o0 16).toNat + 0) = 109 ∧ ra M0 o0 13 ((rv M0 o0 16).toNat + 1) = 97 ∧ ra M0 o0 13 ((rv M0 o0 16).toNat + 2) = 114 ∧ ra M0 o0 13 ((rv M0 o0 16).toNat + 3) = 107)))) := by
  refine mj_enter (by decide) (Nat.le_of_ble_eq_true rfl) ?_
  refine mv_aload_n d_TrustDeskModel_isWord_0 rfl rfl ?_
  obtain ⟨v2, q1⟩ := tm_atI I0 h_o0 (k := 17) rfl
  refine tr_getK q1 d_TrustDeskModel_isWord_1 f_TrustDeskModel_198_13 ?_
  have := tm_rv q1
  refine mv_iconst (v := 3) d_TrustDeskModel_isWord_4 (by decide) ?_
  have := mz_hi v2
  refine mv_icmp_neZ (tgt := 24) (a := v2.toInt) (b := 3) d_TrustDeskModel_isWord_5 (by decide) rfl (by decide) (fun b3 => ?_) (fun b3 => ?_)
  · refine mv_iconst (v := 0) d_TrustDeskModel_isWord_24 (by decide) ?_
    exact mv_iret d_TrustDeskModel_isWord_25 rfl (by decide) ⟨_, I0, _, rfl, by decide, by decide, yR, (fun h => absurd h (by decide)), (fun h => absurd h (by decide)), (fun _ h => by obtain ⟨h1, h2, h3, h4, h5, h6⟩ := h; have := yR.1 15 _ _ rfl; have := yR.1 16 _ _ rfl; have := yR.1 19 _ _ rfl; omega)⟩
  · refine mv_aload_n d_TrustDeskModel_isWord_8 rfl rfl ?_
    obtain ⟨v5, q4⟩ := tm_atI I0 h_o0 (k := 15) rfl
    refine tr_getK q4 d_TrustDeskModel_isWord_9 f_TrustDeskModel_192_13 ?_
    have := yR.f (k := 15) q4 rfl
    have := tm_rv q4
    refine mv_aload_n d_TrustDeskModel_isWord_12 rfl rfl ?_
    obtain ⟨v7, q6⟩ := tm_atI I0 h_o0 (k := 16) rfl
    refine tr_getK q6 d_TrustDeskModel_isWord_13 f_TrustDeskModel_195_13 ?_
    have := yR.f (k := 16) q6 rfl
    have := tm_rv q6
    refine mv_isub d_TrustDeskModel_isWord_16 ?_
    refine mv_aload_n d_TrustDeskModel_isWord_17 rfl rfl ?_
    refine mv_slenK (i := 33) (v := 4) d_TrustDeskModel_isWord_18 lV_TrustDeskModel_214 (by decide) rfl (by decide) (Nat.le_of_ble_eq_true rfl) ?_
    have b8 : (v5 - v7 : Int32).toInt = (v5.toInt - v7.toInt) := mz_sub2 rfl rfl (by have := yR.1 15 _ _ rfl; have := yR.1 16 _ _ rfl; have := yR.1 19 _ _ rfl; omega) (by have := yR.1 15 _ _ rfl; have := yR.1 16 _ _ rfl; have := yR.1 19 _ _ rfl; omega)
    have := mz_hi (v5 - v7)
    refine mv_icmp_eqZ (tgt := 26) (a := (v5 - v7).toInt) (b := 4) d_TrustDeskModel_isWord_21 (by decide) rfl (by decide) (fun b9 => ?_) (fun b9 => ?_)
    · refine mv_iconst (v := 0) d_TrustDeskModel_isWord_26 (by decide) ?_
      refine mv_istore_n (lv' := [(2, .int 0), (0, .ref o0), (1, .ref 43)]) d_TrustDeskModel_isWord_27 rfl (by decide) rfl ?_
      refine mv_iload_n d_TrustDeskModel_isWord_28 rfl rfl ?_
      refine mv_aload_n d_TrustDeskModel_isWord_29 rfl rfl ?_
      refine mv_slenK (i := 33) (v := 4) d_TrustDeskModel_isWord_30 lV_TrustDeskModel_214 (by decide) rfl (by decide) (Nat.le_of_ble_eq_true rfl) ?_
      refine mv_icmp_ge_f (tgt := 63) d_TrustDeskModel_isWord_33 (by decide) (by decide) ?_
      refine mv_aload_n d_TrustDeskModel_isWord_36 rfl rfl ?_
      obtain ⟨a11, q10, t_a11⟩ := tm_atR I0 h_o0 (k := 13) rfl
      refine tr_getK q10 d_TrustDeskModel_isWord_37 f_TrustDeskModel_44_13 ?_
      refine mv_aload_n d_TrustDeskModel_isWord_40 rfl rfl ?_
      refine tr_getK (k := 16) q6 d_TrustDeskModel_isWord_41 f_TrustDeskModel_195_13 ?_
      refine mv_iload_n d_TrustDeskModel_isWord_44 rfl rfl ?_
      refine mv_iadd d_TrustDeskModel_isWord_45 ?_
      have b12 : (v7 + 0 : Int32).toInt = (v7.toInt + 0) := mz_add2 rfl (by decide) (by have := yR.1 15 _ _ rfl; have := yR.1 16 _ _ rfl; have := yR.1 19 _ _ rfl; omega) (by have := yR.1 15 _ _ rfl; have := yR.1 16 _ _ rfl; have := yR.1 19 _ _ rfl; omega)
      refine tr_baldR (o := o0) (k := 13) I0 q10 t_a11 (by decide) d_TrustDeskModel_isWord_46 (vp_in_iff.mpr (by have := yR.1 15 _ _ rfl; have := yR.1 16 _ _ rfl; have := yR.1 19 _ _ rfl; omega)) (fun v13 e14 => ?_)
      have := yR.a (k := 13) rfl ((v7 + 0) : Int32).toNatClampNeg
      have h15 : (v7 + 0).toNatClampNeg = (rv M0 o0 16).toNat + 0 := by have := mz_nat9 (i := (v7 + 0)) (by have := yR.1 15 _ _ rfl; have := yR.1 16 _ _ rfl; have := yR.1 19 _ _ rfl; omega); have := yR.1 15 _ _ rfl; have := yR.1 16 _ _ rfl; have := yR.1 19 _ _ rfl; omega
      have : v13.toInt = ra M0 o0 13 ((rv M0 o0 16).toNat + 0) := by rw [e14, h15]
      refine mv_aload_n d_TrustDeskModel_isWord_47 rfl rfl ?_
      refine mv_iload_n d_TrustDeskModel_isWord_48 rfl rfl ?_
      refine mv_schC (i := 33) (v := 109) d_TrustDeskModel_isWord_49 lV_TrustDeskModel_220 (by decide) rfl (by decide) (by decide) (Nat.le_of_ble_eq_true rfl) (by decide) ?_
      have := mz_hi v13
      refine mv_icmp_eqZ (tgt := 57) (a := v13.toInt) (b := 109) d_TrustDeskModel_isWord_52 (by decide) rfl (by decide) (fun b16 => ?_) (fun b16 => ?_)
      · refine mv_iinc (v := 1) (lv' := [(2, .int 1), (0, .ref o0), (1, .ref 43)]) d_TrustDeskModel_isWord_57 rfl (by decide) (by decide) rfl ?_
        refine mv_goto (tgt := 28) d_TrustDeskModel_isWord_60 (by decide) ?_
        refine mv_iload_n d_TrustDeskModel_isWord_28 rfl rfl ?_
        refine mv_aload_n d_TrustDeskModel_isWord_29 rfl rfl ?_
        refine mv_slenK (i := 33) (v := 4) d_TrustDeskModel_isWord_30 lV_TrustDeskModel_214 (by decide) rfl (by decide) (Nat.le_of_ble_eq_true rfl) ?_
        refine mv_icmp_ge_f (tgt := 63) d_TrustDeskModel_isWord_33 (by decide) (by decide) ?_
        refine mv_aload_n d_TrustDeskModel_isWord_36 rfl rfl ?_
        refine tr_getK (k := 13) q10 d_TrustDeskModel_isWord_37 f_TrustDeskModel_44_13 ?_
        refine mv_aload_n d_TrustDeskModel_isWord_40 rfl rfl ?_
        refine tr_getK (k := 16) q6 d_TrustDeskModel_isWord_41 f_TrustDeskModel_195_13 ?_
        refine mv_iload_n d_TrustDeskModel_isWord_44 rfl rfl ?_
        refine mv_iadd d_TrustDeskModel_isWord_45 ?_
        have b17 : (v7 + 1 : Int32).toInt = (v7.toInt + 1) := mz_add2 rfl (by decide) (by have := yR.1 15 _ _ rfl; have := yR.1 16 _ _ rfl; have := yR.1 19 _ _ rfl; omega) (by have := yR.1 15 _ _ rfl; have := yR.1 16 _ _ rfl; have := yR.1 19 _ _ rfl; omega)
        refine tr_baldR (o := o0) (k := 13) I0 q10 t_a11 (by decide) d_TrustDeskModel_isWord_46 (vp_in_iff.mpr (by have := yR.1 15 _ _ rfl; have := yR.1 16 _ _ rfl; have := yR.1 19 _ _ rfl; omega)) (fun v18 e19 => ?_)
        have := yR.a (k := 13) rfl ((v7 + 1) : Int32).toNatClampNeg
        have h20 : (v7 + 1).toNatClampNeg = (rv M0 o0 16).toNat + 1 := by have := mz_nat9 (i := (v7 + 1)) (by have := yR.1 15 _ _ rfl; have := yR.1 16 _ _ rfl; have := yR.1 19 _ _ rfl; omega); have := yR.1 15 _ _ rfl; have := yR.1 16 _ _ rfl; have := yR.1 19 _ _ rfl; omega
        have : v18.toInt = ra M0 o0 13 ((rv M0 o0 16).toNat + 1) := by rw [e19, h20]
        refine mv_aload_n d_TrustDeskModel_isWord_47 rfl rfl ?_
        refine mv_iload_n d_TrustDeskModel_isWord_48 rfl rfl ?_
        refine mv_schC (i := 33) (v := 97) d_TrustDeskModel_isWord_49 lV_TrustDeskModel_220 (by decide) rfl (by decide) (by decide) (Nat.le_of_ble_eq_true rfl) (by decide) ?_
        have := mz_hi v18
        refine mv_icmp_eqZ (tgt := 57) (a := v18.toInt) (b := 97) d_TrustDeskModel_isWord_52 (by decide) rfl (by decide) (fun b21 => ?_) (fun b21 => ?_)
        · refine mv_iinc (v := 2) (lv' := [(2, .int 2), (0, .ref o0), (1, .ref 43)]) d_TrustDeskModel_isWord_57 rfl (by decide) (by decide) rfl ?_
          refine mv_goto (tgt := 28) d_TrustDeskModel_isWord_60 (by decide) ?_
          refine mv_iload_n d_TrustDeskModel_isWord_28 rfl rfl ?_
          refine mv_aload_n d_TrustDeskModel_isWord_29 rfl rfl ?_
          refine mv_slenK (i := 33) (v := 4) d_TrustDeskModel_isWord_30 lV_TrustDeskModel_214 (by decide) rfl (by decide) (Nat.le_of_ble_eq_true rfl) ?_
          refine mv_icmp_ge_f (tgt := 63) d_TrustDeskModel_isWord_33 (by decide) (by decide) ?_
          refine mv_aload_n d_TrustDeskModel_isWord_36 rfl rfl ?_
          refine tr_getK (k := 13) q10 d_TrustDeskModel_isWord_37 f_TrustDeskModel_44_13 ?_
          refine mv_aload_n d_TrustDeskModel_isWord_40 rfl rfl ?_
          refine tr_getK (k := 16) q6 d_TrustDeskModel_isWord_41 f_TrustDeskModel_195_13 ?_
          refine mv_iload_n d_TrustDeskModel_isWord_44 rfl rfl ?_
          refine mv_iadd d_TrustDeskModel_isWord_45 ?_
          have b22 : (v7 + 2 : Int32).toInt = (v7.toInt + 2) := mz_add2 rfl (by decide) (by have := yR.1 15 _ _ rfl; have := yR.1 16 _ _ rfl; have := yR.1 19 _ _ rfl; omega) (by have := yR.1 15 _ _ rfl; have := yR.1 16 _ _ rfl; have := yR.1 19 _ _ rfl; omega)
          refine tr_baldR (o := o0) (k := 13) I0 q10 t_a11 (by decide) d_TrustDeskModel_isWord_46 (vp_in_iff.mpr (by have := yR.1 15 _ _ rfl; have := yR.1 16 _ _ rfl; have := yR.1 19 _ _ rfl; omega)) (fun v23 e24 => ?_)
          have := yR.a (k := 13) rfl ((v7 + 2) : Int32).toNatClampNeg
          have h25 : (v7 + 2).toNatClampNeg = (rv M0 o0 16).toNat + 2 := by have := mz_nat9 (i := (v7 + 2)) (by have := yR.1 15 _ _ rfl; have := yR.1 16 _ _ rfl; have := yR.1 19 _ _ rfl; omega); have := yR.1 15 _ _ rfl; have := yR.1 16 _ _ rfl; have := yR.1 19 _ _ rfl; omega
          have : v23.toInt = ra M0 o0 13 ((rv M0 o0 16).toNat + 2) := by rw [e24, h25]
          refine mv_aload_n d_TrustDeskModel_isWord_47 rfl rfl ?_
          refine mv_iload_n d_TrustDeskModel_isWord_48 rfl rfl ?_
          refine mv_schC (i := 33) (v := 114) d_TrustDeskModel_isWord_49 lV_TrustDeskModel_220 (by decide) rfl (by decide) (by decide) (Nat.le_of_ble_eq_true rfl) (by decide) ?_
          have := mz_hi v23
          refine mv_icmp_eqZ (tgt := 57) (a := v23.toInt) (b := 114) d_TrustDeskModel_isWord_52 (by decide) rfl (by decide) (fun b26 => ?_) (fun b26 => ?_)
          · refine mv_iinc (v := 3) (lv' := [(2, .int 3), (0, .ref o0), (1, .ref 43)]) d_TrustDeskModel_isWord_57 rfl (by decide) (by decide) rfl ?_
            refine mv_goto (tgt := 28) d_TrustDeskModel_isWord_60 (by decide) ?_
            refine mv_iload_n d_TrustDeskModel_isWord_28 rfl rfl ?_
            refine mv_aload_n d_TrustDeskModel_isWord_29 rfl rfl ?_
            refine mv_slenK (i := 33) (v := 4) d_TrustDeskModel_isWord_30 lV_TrustDeskModel_214 (by decide) rfl (by decide) (Nat.le_of_ble_eq_true rfl) ?_
            refine mv_icmp_ge_f (tgt := 63) d_TrustDeskModel_isWord_33 (by decide) (by decide) ?_
            refine mv_aload_n d_TrustDeskModel_isWord_36 rfl rfl ?_
            refine tr_getK (k := 13) q10 d_TrustDeskModel_isWord_37 f_TrustDeskModel_44_13 ?_
            refine mv_aload_n d_TrustDeskModel_isWord_40 rfl rfl ?_
            refine tr_getK (k := 16) q6 d_TrustDeskModel_isWord_41 f_TrustDeskModel_195_13 ?_
            refine mv_iload_n d_TrustDeskModel_isWord_44 rfl rfl ?_
            refine mv_iadd d_TrustDeskModel_isWord_45 ?_
            have b27 : (v7 + 3 : Int32).toInt = (v7.toInt + 3) := mz_add2 rfl (by decide) (by have := yR.1 15 _ _ rfl; have := yR.1 16 _ _ rfl; have := yR.1 19 _ _ rfl; omega) (by have := yR.1 15 _ _ rfl; have := yR.1 16 _ _ rfl; have := yR.1 19 _ _ rfl; omega)
            refine tr_baldR (o := o0) (k := 13) I0 q10 t_a11 (by decide) d_TrustDeskModel_isWord_46 (vp_in_iff.mpr (by have := yR.1 15 _ _ rfl; have := yR.1 16 _ _ rfl; have := yR.1 19 _ _ rfl; omega)) (fun v28 e29 => ?_)
            have := yR.a (k := 13) rfl ((v7 + 3) : Int32).toNatClampNeg
            have h30 : (v7 + 3).toNatClampNeg = (rv M0 o0 16).toNat + 3 := by have := mz_nat9 (i := (v7 + 3)) (by have := yR.1 15 _ _ rfl; have := yR.1 16 _ _ rfl; have := yR.1 19 _ _ rfl; omega); have := yR.1 15 _ _ rfl; have := yR.1 16 _ _ rfl; have := yR.1 19 _ _ rfl; omega
            have : v28.toInt = ra M0 o0 13 ((rv M0 o0 16).toNat + 3) := by rw [e29, h30]
            refine mv_aload_n d_TrustDeskModel_isWord_47 rfl rfl ?_
            refine mv_iload_n d_TrustDeskModel_isWord_48 rfl rfl ?_
            refine mv_schC (i := 33) (v := 107) d_TrustDeskModel_isWord_49 lV_TrustDeskModel_220 (by decide) rfl (by decide) (by decide) (Nat.le_of_ble_eq_true rfl) (by decide) ?_
            have := mz_hi v28
            refine mv_icmp_eqZ (tgt := 57) (a := v28.toInt) (b := 107) d_TrustDeskModel_isWord_52 (by decide) rfl (by decide) (fun b31 => ?_) (fun b31 => ?_)
            · refine mv_iinc (v := 4) (lv' := [(2, .int 4), (0, .ref o0), (1, .ref 43)]) d_TrustDeskModel_isWord_57 rfl (by decide) (by decide) rfl ?_
              refine mv_goto (tgt := 28) d_TrustDeskModel_isWord_60 (by decide) ?_
              refine mv_iload_n d_TrustDeskModel_isWord_28 rfl rfl ?_
              refine mv_aload_n d_TrustDeskModel_isWord_29 rfl rfl ?_
              refine mv_slenK (i := 33) (v := 4) d_TrustDeskModel_isWord_30 lV_TrustDeskModel_214 (by decide) rfl (by decide) (Nat.le_of_ble_eq_true rfl) ?_
              refine mv_icmp_ge_t (tgt := 63) d_TrustDeskModel_isWord_33 (by decide) (by decide) ?_
              refine mv_iconst (v := 1) d_TrustDeskModel_isWord_63 (by decide) ?_
              exact mv_iret d_TrustDeskModel_isWord_64 rfl (by decide) ⟨_, I0, _, rfl, by decide, by decide, yR, (fun _ => by have := yR.1 15 _ _ rfl; have := yR.1 16 _ _ rfl; have := yR.1 19 _ _ rfl; omega), (fun _ => ⟨by have := yR.1 15 _ _ rfl; have := yR.1 16 _ _ rfl; have := yR.1 19 _ _ rfl; omega, by have := yR.1 15 _ _ rfl; have := yR.1 16 _ _ rfl; have := yR.1 19 _ _ rfl; omega, by have := yR.1 15 _ _ rfl; have := yR.1 16 _ _ rfl; have := yR.1 19 _ _ rfl; omega, by have := yR.1 15 _ _ rfl; have := yR.1 16 _ _ rfl; have := yR.1 19 _ _ rfl; omega, by have := yR.1 15 _ _ rfl; have := yR.1 16 _ _ rfl; have := yR.1 19 _ _ rfl; omega, by have := yR.1 15 _ _ rfl; have := yR.1 16 _ _ rfl; have := yR.1 19 _ _ rfl; omega⟩), (fun h => absurd h (by decide))⟩
            · refine mv_iconst (v := 0) d_TrustDeskModel_isWord_55 (by decide) ?_
              exact mv_iret d_TrustDeskModel_isWord_56 rfl (by decide) ⟨_, I0, _, rfl, by decide, by decide, yR, (fun h => absurd h (by decide)), (fun h => absurd h (by decide)), (fun _ h => by obtain ⟨h1, h2, h3, h4, h5, h6⟩ := h; have := yR.1 15 _ _ rfl; have := yR.1 16 _ _ rfl; have := yR.1 19 _ _ rfl; omega)⟩
          · refine mv_iconst (v := 0) d_TrustDeskModel_isWord_55 (by decide) ?_
            exact mv_iret d_TrustDeskModel_isWord_56 rfl (by decide) ⟨_, I0, _, rfl, by decide, by decide, yR, (fun h => absurd h (by decide)), (fun h => absurd h (by decide)), (fun _ h => by obtain ⟨h1, h2, h3, h4, h5, h6⟩ := h; have := yR.1 15 _ _ rfl; have := yR.1 16 _ _ rfl; have := yR.1 19 _ _ rfl; omega)⟩
        · refine mv_iconst (v := 0) d_TrustDeskModel_isWord_55 (by decide) ?_
          exact mv_iret d_TrustDeskModel_isWord_56 rfl (by decide) ⟨_, I0, _, rfl, by decide, by decide, yR, (fun h => absurd h (by decide)), (fun h => absurd h (by decide)), (fun _ h => by obtain ⟨h1, h2, h3, h4, h5, h6⟩ := h; have := yR.1 15 _ _ rfl; have := yR.1 16 _ _ rfl; have := yR.1 19 _ _ rfl; omega)⟩
      · refine mv_iconst (v := 0) d_TrustDeskModel_isWord_55 (by decide) ?_
        exact mv_iret d_TrustDeskModel_isWord_56 rfl (by decide) ⟨_, I0, _, rfl, by decide, by decide, yR, (fun h => absurd h (by decide)), (fun h => absurd h (by decide)), (fun _ h => by obtain ⟨h1, h2, h3, h4, h5, h6⟩ := h; have := yR.1 15 _ _ rfl; have := yR.1 16 _ _ rfl; have := yR.1 19 _ _ rfl; omega)⟩
    · refine mv_iconst (v := 0) d_TrustDeskModel_isWord_24 (by decide) ?_
      exact mv_iret d_TrustDeskModel_isWord_25 rfl (by decide) ⟨_, I0, _, rfl, by decide, by decide, yR, (fun h => absurd h (by decide)), (fun h => absurd h (by decide)), (fun _ h => by obtain ⟨h1, h2, h3, h4, h5, h6⟩ := h; have := yR.1 15 _ _ rfl; have := yR.1 16 _ _ rfl; have := yR.1 19 _ _ rfl; omega)⟩
theorem d_TrustDeskModel_readClause_85 : decode kY_TrustDeskModel_readClause.2.1 85 = .ok (.istore_n 2, 1) := by decide +kernel
theorem d_TrustDeskModel_readClause_86 : decode kY_TrustDeskModel_readClause.2.1 86 = .ok (.aload_n 0, 1) := by decide +kernel
theorem d_TrustDeskModel_readClause_87 : decode kY_TrustDeskModel_readClause.2.1 87 = .ok (.iload_n 1, 1) := by decide +kernel
theorem d_TrustDeskModel_readClause_88 : decode kY_TrustDeskModel_readClause.2.1 88 = .ok (.ifCond .eq 8, 3) := by decide +kernel
theorem d_TrustDeskModel_readClause_91 : decode kY_TrustDeskModel_readClause.2.1 91 = .ok (.bipush 8, 2) := by decide +kernel
theorem d_TrustDeskModel_readClause_93 : decode kY_TrustDeskModel_readClause.2.1 93 = .ok (.goto 14, 3) := by decide +kernel
theorem d_TrustDeskModel_readClause_107 : decode kY_TrustDeskModel_readClause.2.1 107 = .ok (.invokevirtual 342, 3) := by decide +kernel
theorem lV_TrustDeskModel_342 : mj_lV "TrustDeskModel" 342 kY_TrustDeskModel_begin 1 := ⟨⟨(mj_in1 (List.mem_of_getElem? (i := 1691) (by decide +kernel)) rfl), (mj_in1 (List.mem_of_getElem? (i := 10) (by decide +kernel)) rfl), (mj_in1 (List.mem_of_getElem? (i := 1694) (by decide +kernel)) rfl), by decide, rfl, by decide⟩, (mj_in1 (List.mem_of_getElem? (i := 1693) (by decide +kernel)) rfl), (mj_in (List.mem_append_left _ (List.mem_of_getElem? (i := 88) (by decide +kernel))) rfl)⟩
theorem d_TrustDeskModel_readClause_110 : decode kY_TrustDeskModel_readClause.2.1 110 = .ok (.istore_n 3, 1) := by decide +kernel
theorem d_TrustDeskModel_readClause_111 : decode kY_TrustDeskModel_readClause.2.1 111 = .ok (.iload_n 1, 1) := by decide +kernel
theorem d_TrustDeskModel_readClause_112 : decode kY_TrustDeskModel_readClause.2.1 112 = .ok (.ifCond .eq 11, 3) := by decide +kernel
theorem d_TrustDeskModel_readClause_115 : decode kY_TrustDeskModel_readClause.2.1 115 = .ok (.aload_n 0, 1) := by decide +kernel
theorem d_TrustDeskModel_readClause_116 : decode kY_TrustDeskModel_readClause.2.1 116 = .ok (.iload_n 3, 1) := by decide +kernel
theorem d_TrustDeskModel_readClause_117 : decode kY_TrustDeskModel_readClause.2.1 117 = .ok (.invokevirtual 345, 3) := by decide +kernel
theorem lV_TrustDeskModel_345 : mj_lV "TrustDeskModel" 345 kY_TrustDeskModel_readEnd 1 := ⟨⟨(mj_in1 (List.mem_of_getElem? (i := 1802) (by decide +kernel)) rfl), (mj_in1 (List.mem_of_getElem? (i := 10) (by decide +kernel)) rfl), (mj_in1 (List.mem_of_getElem? (i := 1805) (by decide +kernel)) rfl), by decide, rfl, by decide⟩, (mj_in1 (List.mem_of_getElem? (i := 1804) (by decide +kernel)) rfl), (mj_in (List.mem_append_left _ (List.mem_of_getElem? (i := 107) (by decide +kernel))) rfl)⟩
theorem d_TrustDeskModel_readClause_120 : decode kY_TrustDeskModel_readClause.2.1 120 = .ok (.goto 45, 3) := by decide +kernel
theorem d_TrustDeskModel_readClause_165 : decode kY_TrustDeskModel_readClause.2.1 165 = .ok (.aload_n 0, 1) := by decide +kernel
theorem d_TrustDeskModel_readClause_166 : decode kY_TrustDeskModel_readClause.2.1 166 = .ok (.bipush 59, 2) := by decide +kernel
theorem d_TrustDeskModel_readClause_168 : decode kY_TrustDeskModel_readClause.2.1 168 = .ok (.invokevirtual 291, 3) := by decide +kernel
theorem d_TrustDeskModel_readClause_171 : decode kY_TrustDeskModel_readClause.2.1 171 = .ok (.aload_n 0, 1) := by decide +kernel
theorem d_TrustDeskModel_readClause_172 : decode kY_TrustDeskModel_readClause.2.1 172 = .ok (.getfield 41, 3) := by decide +kernel
theorem f_TrustDeskModel_41_13 : mj_fl "TrustDeskModel" 41 13 12 := ⟨kR_TrustDeskModel, kF_TrustDeskModel, 72, "TrustDeskModel", rfl, kg_13, by decide, (mj_in1 (List.mem_of_getElem? (i := 1398) (by decide +kernel)) rfl), Or.inl rfl⟩
theorem d_TrustDeskModel_readClause_175 : decode kY_TrustDeskModel_readClause.2.1 175 = .ok (.iload_n 3, 1) := by decide +kernel
theorem d_TrustDeskModel_readClause_176 : decode kY_TrustDeskModel_readClause.2.1 176 = .ok (.aload_n 0, 1) := by decide +kernel
theorem d_TrustDeskModel_readClause_177 : decode kY_TrustDeskModel_readClause.2.1 177 = .ok (.getfield 20, 3) := by decide +kernel
theorem d_TrustDeskModel_readClause_180 : decode kY_TrustDeskModel_readClause.2.1 180 = .ok (.bipush 44, 2) := by decide +kernel
theorem d_TrustDeskModel_readClause_182 : decode kY_TrustDeskModel_readClause.2.1 182 = .ok (.iaload, 1) := by decide +kernel
theorem d_TrustDeskModel_readClause_183 : decode kY_TrustDeskModel_readClause.2.1 183 = .ok (.iastore, 1) := by decide +kernel
theorem d_TrustDeskModel_readClause_184 : decode kY_TrustDeskModel_readClause.2.1 184 = .ok (.return_, 1) := by decide +kernel
theorem d_TrustDeskModel_readClause_12 : decode kY_TrustDeskModel_readClause.2.1 12 = .ok (.aload_n 0, 1) := by decide +kernel
theorem d_TrustDeskModel_readClause_13 : decode kY_TrustDeskModel_readClause.2.1 13 = .ok (.ldc_w 338, 3) := by decide +kernel
theorem d_TrustDeskModel_readClause_16 : decode kY_TrustDeskModel_readClause.2.1 16 = .ok (.invokevirtual 244, 3) := by decide +kernel
theorem d_TrustDeskModel_readClause_19 : decode kY_TrustDeskModel_readClause.2.1 19 = .ok (.ifCond .ne 21, 3) := by decide +kernel
theorem d_TrustDeskModel_readClause_96 : decode kY_TrustDeskModel_readClause.2.1 96 = .ok (.iload_n 2, 1) := by decide +kernel
theorem d_TrustDeskModel_readClause_97 : decode kY_TrustDeskModel_readClause.2.1 97 = .ok (.ifCond .eq 8, 3) := by decide +kernel
theorem d_TrustDeskModel_readClause_105 : decode kY_TrustDeskModel_readClause.2.1 105 = .ok (.bipush 9, 2) := by decide +kernel
theorem d_TrustDeskModel_readClause_123 : decode kY_TrustDeskModel_readClause.2.1 123 = .ok (.iload_n 2, 1) := by decide +kernel
theorem d_TrustDeskModel_readClause_124 : decode kY_TrustDeskModel_readClause.2.1 124 = .ok (.ifCond .eq 11, 3) := by decide +kernel
theorem d_TrustDeskModel_readClause_135 : decode kY_TrustDeskModel_readClause.2.1 135 = .ok (.aload_n 0, 1) := by decide +kernel
theorem d_TrustDeskModel_readClause_136 : decode kY_TrustDeskModel_readClause.2.1 136 = .ok (.getfield 29, 3) := by decide +kernel
theorem d_TrustDeskModel_readClause_139 : decode kY_TrustDeskModel_readClause.2.1 139 = .ok (.iload_n 3, 1) := by decide +kernel
theorem d_TrustDeskModel_readClause_140 : decode kY_TrustDeskModel_readClause.2.1 140 = .ok (.aload_n 0, 1) := by decide +kernel
theorem d_TrustDeskModel_readClause_141 : decode kY_TrustDeskModel_readClause.2.1 141 = .ok (.iconst 1, 1) := by decide +kernel
theorem d_TrustDeskModel_readClause_142 : decode kY_TrustDeskModel_readClause.2.1 142 = .ok (.bipush 7, 2) := by decide +kernel
theorem d_TrustDeskModel_readClause_144 : decode kY_TrustDeskModel_readClause.2.1 144 = .ok (.invokevirtual 317, 3) := by decide +kernel
theorem d_TrustDeskModel_readClause_147 : decode kY_TrustDeskModel_readClause.2.1 147 = .ok (.iastore, 1) := by decide +kernel
theorem d_TrustDeskModel_readClause_148 : decode kY_TrustDeskModel_readClause.2.1 148 = .ok (.aload_n 0, 1) := by decide +kernel
theorem d_TrustDeskModel_readClause_149 : decode kY_TrustDeskModel_readClause.2.1 149 = .ok (.getfield 32, 3) := by decide +kernel
theorem d_TrustDeskModel_readClause_152 : decode kY_TrustDeskModel_readClause.2.1 152 = .ok (.iload_n 3, 1) := by decide +kernel
theorem d_TrustDeskModel_readClause_153 : decode kY_TrustDeskModel_readClause.2.1 153 = .ok (.aload_n 0, 1) := by decide +kernel
theorem d_TrustDeskModel_readClause_154 : decode kY_TrustDeskModel_readClause.2.1 154 = .ok (.iconst 1, 1) := by decide +kernel
theorem d_TrustDeskModel_readClause_155 : decode kY_TrustDeskModel_readClause.2.1 155 = .ok (.aload_n 0, 1) := by decide +kernel
theorem d_TrustDeskModel_readClause_156 : decode kY_TrustDeskModel_readClause.2.1 156 = .ok (.getfield 29, 3) := by decide +kernel
theorem d_TrustDeskModel_readClause_159 : decode kY_TrustDeskModel_readClause.2.1 159 = .ok (.iload_n 3, 1) := by decide +kernel
theorem d_TrustDeskModel_readClause_160 : decode kY_TrustDeskModel_readClause.2.1 160 = .ok (.iaload, 1) := by decide +kernel
theorem d_TrustDeskModel_readClause_161 : decode kY_TrustDeskModel_readClause.2.1 161 = .ok (.invokevirtual 317, 3) := by decide +kernel
theorem d_TrustDeskModel_readClause_164 : decode kY_TrustDeskModel_readClause.2.1 164 = .ok (.iastore, 1) := by decide +kernel
theorem d_TrustDeskModel_readClause_100 : decode kY_TrustDeskModel_readClause.2.1 100 = .ok (.bipush 7, 2) := by decide +kernel
theorem d_TrustDeskModel_readClause_102 : decode kY_TrustDeskModel_readClause.2.1 102 = .ok (.goto 5, 3) := by decide +kernel
theorem d_TrustDeskModel_readClause_127 : decode kY_TrustDeskModel_readClause.2.1 127 = .ok (.aload_n 0, 1) := by decide +kernel
theorem d_TrustDeskModel_readClause_128 : decode kY_TrustDeskModel_readClause.2.1 128 = .ok (.iload_n 3, 1) := by decide +kernel
theorem d_TrustDeskModel_readClause_129 : decode kY_TrustDeskModel_readClause.2.1 129 = .ok (.invokevirtual 348, 3) := by decide +kernel
theorem lV_TrustDeskModel_348 : mj_lV "TrustDeskModel" 348 kY_TrustDeskModel_readMarks 1 := ⟨⟨(mj_in1 (List.mem_of_getElem? (i := 1812) (by decide +kernel)) rfl), (mj_in1 (List.mem_of_getElem? (i := 10) (by decide +kernel)) rfl), (mj_in1 (List.mem_of_getElem? (i := 1815) (by decide +kernel)) rfl), by decide, rfl, by decide⟩, (mj_in1 (List.mem_of_getElem? (i := 1814) (by decide +kernel)) rfl), (mj_in (List.mem_append_left _ (List.mem_of_getElem? (i := 109) (by decide +kernel))) rfl)⟩
theorem d_TrustDeskModel_readClause_132 : decode kY_TrustDeskModel_readClause.2.1 132 = .ok (.goto 33, 3) := by decide +kernel
theorem d_TrustDeskModel_readClause_22 : decode kY_TrustDeskModel_readClause.2.1 22 = .ok (.aload_n 0, 1) := by decide +kernel
theorem d_TrustDeskModel_readClause_23 : decode kY_TrustDeskModel_readClause.2.1 23 = .ok (.ldc_w 340, 3) := by decide +kernel
theorem d_TrustDeskModel_readClause_26 : decode kY_TrustDeskModel_readClause.2.1 26 = .ok (.invokevirtual 244, 3) := by decide +kernel
def w_TrustDeskModel_isWord_s1_44_x : List Nat := []
set_option maxHeartbeats 100000000 in theorem tc_TrustDeskModel_isWord_s1_44_x {g : mj_G} {l : Launch} {d : Nat} {T0 : tm_H} {M0 : mj_M} {n0 x9 : Nat} {o0 : Nat} (h_o0 : T0 o0 = some (0, 13, 0)) (yR : rI M0 o0) (I0 : tm_I tm_FT (tm_in w_TrustDeskModel_isWord_s1_44_x) x9 T0 M0 n0 T0 M0 n0) : mj_Met g l kY_TrustDeskModel_isWord (d + 4) [.ref o0, .ref 44] M0 n0 0 0 (tm_Q tm_FT (tm_in w_TrustDeskModel_isWord_s1_44_x) x9 T0 M0 n0 (fun r _ M => ∃ v : Int32, r = some (.int v) ∧ 0 ≤ v.toInt ∧ v.toInt ≤ 1 ∧ rI M o0 ∧ (v.toInt = 1 → rv M0 o0 17 = 3) ∧ (v.toInt = 1 → rv M0 o0 17 = 3 ∧ rv M0 o0 15 - rv M0 o0 16 = 5 ∧ ra M0 o0 13 ((rv M0 o0 16).toNat + 0) = 116 ∧ ra M0 o0 13 ((rv M0 o0 16).toNat + 1) = 114 ∧ ra M0 o0 13 ((rv M0 o0 16).toNat + 2) = 117 ∧ ra M0 o0 13 ((rv M0 o0 16).toNat + 3) = 115 ∧ ra M0 o0 13 ((rv M0 o0 16).toNat + 4) = 116) ∧ (v.toInt = 0 → ¬ (rv M0 o0 17 = 3 ∧ rv M0 o0 15 - rv M0 o0 16 = 5 ∧ ra M0 o0 13 ((rv M0 o0 16).toNat + 0) = 116 ∧ ra M0 o0 13 ((rv M0 o0 16).toNat + 1) = 114 ∧ ra M0 o0 13 ((rv M0 o0 16).toNat + 2) = 117 ∧ ra M0 o0 13 ((rv M0 o0 16).toNat + 3) = 115 ∧ ra M0 o0 13 ((rv M0 o0 16).toNat + 4) = 116)))) := by
  refine mj_enter (by decide) (Nat.le_of_ble_eq_true rfl) ?_
  refine mv_aload_n d_TrustDeskModel_isWord_0 rfl rfl ?_
  obtain ⟨v2, q1⟩ := tm_atI I0 h_o0 (k := 17) rfl
  refine tr_getK q1 d_TrustDeskModel_isWord_1 f_TrustDeskModel_198_13 ?_
  have := tm_rv q1
  refine mv_iconst (v := 3) d_TrustDeskModel_isWord_4 (by decide) ?_
  have := mz_hi v2
  refine mv_icmp_neZ (tgt := 24) (a := v2.toInt) (b := 3) d_TrustDeskModel_isWord_5 (by decide) rfl (by decide) (fun b3 => ?_) (fun b3 => ?_)
  · refine mv_iconst (v := 0) d_TrustDeskModel_isWord_24 (by decide) ?_
    exact mv_iret d_TrustDeskModel_isWord_25 rfl (by decide) ⟨_, I0, _, rfl, by decide, by decide, yR, (fun h => absurd h (by decide)), (fun h => absurd h (by decide)), (fun _ h => by obtain ⟨h1, h2, h3, h4, h5, h6, h7⟩ := h; have := yR.1 15 _ _ rfl; have := yR.1 16 _ _ rfl; have := yR.1 19 _ _ rfl; omega)⟩
  · refine mv_aload_n d_TrustDeskModel_isWord_8 rfl rfl ?_
    obtain ⟨v5, q4⟩ := tm_atI I0 h_o0 (k := 15) rfl
    refine tr_getK q4 d_TrustDeskModel_isWord_9 f_TrustDeskModel_192_13 ?_
    have := yR.f (k := 15) q4 rfl
    have := tm_rv q4
    refine mv_aload_n d_TrustDeskModel_isWord_12 rfl rfl ?_
    obtain ⟨v7, q6⟩ := tm_atI I0 h_o0 (k := 16) rfl
    refine tr_getK q6 d_TrustDeskModel_isWord_13 f_TrustDeskModel_195_13 ?_
    have := yR.f (k := 16) q6 rfl
    have := tm_rv q6
    refine mv_isub d_TrustDeskModel_isWord_16 ?_
    refine mv_aload_n d_TrustDeskModel_isWord_17 rfl rfl ?_
    refine mv_slenK (i := 34) (v := 5) d_TrustDeskModel_isWord_18 lV_TrustDeskModel_214 (by decide) rfl (by decide) (Nat.le_of_ble_eq_true rfl) ?_
    have b8 : (v5 - v7 : Int32).toInt = (v5.toInt - v7.toInt) := mz_sub2 rfl rfl (by have := yR.1 15 _ _ rfl; have := yR.1 16 _ _ rfl; have := yR.1 19 _ _ rfl; omega) (by have := yR.1 15 _ _ rfl; have := yR.1 16 _ _ rfl; have := yR.1 19 _ _ rfl; omega)
    have := mz_hi (v5 - v7)
    refine mv_icmp_eqZ (tgt := 26) (a := (v5 - v7).toInt) (b := 5) d_TrustDeskModel_isWord_21 (by decide) rfl (by decide) (fun b9 => ?_) (fun b9 => ?_)
    · refine mv_iconst (v := 0) d_TrustDeskModel_isWord_26 (by decide) ?_
      refine mv_istore_n (lv' := [(2, .int 0), (0, .ref o0), (1, .ref 44)]) d_TrustDeskModel_isWord_27 rfl (by decide) rfl ?_
      refine mv_iload_n d_TrustDeskModel_isWord_28 rfl rfl ?_
      refine mv_aload_n d_TrustDeskModel_isWord_29 rfl rfl ?_
      refine mv_slenK (i := 34) (v := 5) d_TrustDeskModel_isWord_30 lV_TrustDeskModel_214 (by decide) rfl (by decide) (Nat.le_of_ble_eq_true rfl) ?_
      refine mv_icmp_ge_f (tgt := 63) d_TrustDeskModel_isWord_33 (by decide) (by decide) ?_
      refine mv_aload_n d_TrustDeskModel_isWord_36 rfl rfl ?_
      obtain ⟨a11, q10, t_a11⟩ := tm_atR I0 h_o0 (k := 13) rfl
      refine tr_getK q10 d_TrustDeskModel_isWord_37 f_TrustDeskModel_44_13 ?_
      refine mv_aload_n d_TrustDeskModel_isWord_40 rfl rfl ?_
      refine tr_getK (k := 16) q6 d_TrustDeskModel_isWord_41 f_TrustDeskModel_195_13 ?_
      refine mv_iload_n d_TrustDeskModel_isWord_44 rfl rfl ?_
      refine mv_iadd d_TrustDeskModel_isWord_45 ?_
      have b12 : (v7 + 0 : Int32).toInt = (v7.toInt + 0) := mz_add2 rfl (by decide) (by have := yR.1 15 _ _ rfl; have := yR.1 16 _ _ rfl; have := yR.1 19 _ _ rfl; omega) (by have := yR.1 15 _ _ rfl; have := yR.1 16 _ _ rfl; have := yR.1 19 _ _ rfl; omega)
      refine tr_baldR (o := o0) (k := 13) I0 q10 t_a11 (by decide) d_TrustDeskModel_isWord_46 (vp_in_iff.mpr (by have := yR.1 15 _ _ rfl; have := yR.1 16 _ _ rfl; have := yR.1 19 _ _ rfl; omega)) (fun v13 e14 => ?_)
      have := yR.a (k := 13) rfl ((v7 + 0) : Int32).toNatClampNeg
      have h15 : (v7 + 0).toNatClampNeg = (rv M0 o0 16).toNat + 0 := by have := mz_nat9 (i := (v7 + 0)) (by have := yR.1 15 _ _ rfl; have := yR.1 16 _ _ rfl; have := yR.1 19 _ _ rfl; omega); have := yR.1 15 _ _ rfl; have := yR.1 16 _ _ rfl; have := yR.1 19 _ _ rfl; omega
      have : v13.toInt = ra M0 o0 13 ((rv M0 o0 16).toNat + 0) := by rw [e14, h15]
      refine mv_aload_n d_TrustDeskModel_isWord_47 rfl rfl ?_
      refine mv_iload_n d_TrustDeskModel_isWord_48 rfl rfl ?_
      refine mv_schC (i := 34) (v := 116) d_TrustDeskModel_isWord_49 lV_TrustDeskModel_220 (by decide) rfl (by decide) (by decide) (Nat.le_of_ble_eq_true rfl) (by decide) ?_
      have := mz_hi v13
      refine mv_icmp_eqZ (tgt := 57) (a := v13.toInt) (b := 116) d_TrustDeskModel_isWord_52 (by decide) rfl (by decide) (fun b16 => ?_) (fun b16 => ?_)
      · refine mv_iinc (v := 1) (lv' := [(2, .int 1), (0, .ref o0), (1, .ref 44)]) d_TrustDeskModel_isWord_57 rfl (by decide) (by decide) rfl ?_
        refine mv_goto (tgt := 28) d_TrustDeskModel_isWord_60 (by decide) ?_
        refine mv_iload_n d_TrustDeskModel_isWord_28 rfl rfl ?_
        refine mv_aload_n d_TrustDeskModel_isWord_29 rfl rfl ?_
        refine mv_slenK (i := 34) (v := 5) d_TrustDeskModel_isWord_30 lV_TrustDeskModel_214 (by decide) rfl (by decide) (Nat.le_of_ble_eq_true rfl) ?_
        refine mv_icmp_ge_f (tgt := 63) d_TrustDeskModel_isWord_33 (by decide) (by decide) ?_
        refine mv_aload_n d_TrustDeskModel_isWord_36 rfl rfl ?_
        refine tr_getK (k := 13) q10 d_TrustDeskModel_isWord_37 f_TrustDeskModel_44_13 ?_
        refine mv_aload_n d_TrustDeskModel_isWord_40 rfl rfl ?_
        refine tr_getK (k := 16) q6 d_TrustDeskModel_isWord_41 f_TrustDeskModel_195_13 ?_
        refine mv_iload_n d_TrustDeskModel_isWord_44 rfl rfl ?_
        refine mv_iadd d_TrustDeskModel_isWord_45 ?_
        have b17 : (v7 + 1 : Int32).toInt = (v7.toInt + 1) := mz_add2 rfl (by decide) (by have := yR.1 15 _ _ rfl; have := yR.1 16 _ _ rfl; have := yR.1 19 _ _ rfl; omega) (by have := yR.1 15 _ _ rfl; have := yR.1 16 _ _ rfl; have := yR.1 19 _ _ rfl; omega)
        refine tr_baldR (o := o0) (k := 13) I0 q10 t_a11 (by decide) d_TrustDeskModel_isWord_46 (vp_in_iff.mpr (by have := yR.1 15 _ _ rfl; have := yR.1 16 _ _ rfl; have := yR.1 19 _ _ rfl; omega)) (fun v18 e19 => ?_)
        have := yR.a (k := 13) rfl ((v7 + 1) : Int32).toNatClampNeg
        have h20 : (v7 + 1).toNatClampNeg = (rv M0 o0 16).toNat + 1 := by have := mz_nat9 (i := (v7 + 1)) (by have := yR.1 15 _ _ rfl; have := yR.1 16 _ _ rfl; have := yR.1 19 _ _ rfl; omega); have := yR.1 15 _ _ rfl; have := yR.1 16 _ _ rfl; have := yR.1 19 _ _ rfl; omega
        have : v18.toInt = ra M0 o0 13 ((rv M0 o0 16).toNat + 1) := by rw [e19, h20]
        refine mv_aload_n d_TrustDeskModel_isWord_47 rfl rfl ?_
        refine mv_iload_n d_TrustDeskModel_isWord_48 rfl rfl ?_
        refine mv_schC (i := 34) (v := 114) d_TrustDeskModel_isWord_49 lV_TrustDeskModel_220 (by decide) rfl (by decide) (by decide) (Nat.le_of_ble_eq_true rfl) (by decide) ?_
        have := mz_hi v18
        refine mv_icmp_eqZ (tgt := 57) (a := v18.toInt) (b := 114) d_TrustDeskModel_isWord_52 (by decide) rfl (by decide) (fun b21 => ?_) (fun b21 => ?_)
        · refine mv_iinc (v := 2) (lv' := [(2, .int 2), (0, .ref o0), (1, .ref 44)]) d_TrustDeskModel_isWord_57 rfl (by decide) (by decide) rfl ?_
          refine mv_goto (tgt := 28) d_TrustDeskModel_isWord_60 (by decide) ?_
          refine mv_iload_n d_TrustDeskModel_isWord_28 rfl rfl ?_
          refine mv_aload_n d_TrustDeskModel_isWord_29 rfl rfl ?_
          refine mv_slenK (i := 34) (v := 5) d_TrustDeskModel_isWord_30 lV_TrustDeskModel_214 (by decide) rfl (by decide) (Nat.le_of_ble_eq_true rfl) ?_
          refine mv_icmp_ge_f (tgt := 63) d_TrustDeskModel_isWord_33 (by decide) (by decide) ?_
          refine mv_aload_n d_TrustDeskModel_isWord_36 rfl rfl ?_
          refine tr_getK (k := 13) q10 d_TrustDeskModel_isWord_37 f_TrustDeskModel_44_13 ?_
          refine mv_aload_n d_TrustDeskModel_isWord_40 rfl rfl ?_
          refine tr_getK (k := 16) q6 d_TrustDeskModel_isWord_41 f_TrustDeskModel_195_13 ?_
          refine mv_iload_n d_TrustDeskModel_isWord_44 rfl rfl ?_
          refine mv_iadd d_TrustDeskModel_isWord_45 ?_
          have b22 : (v7 + 2 : Int32).toInt = (v7.toInt + 2) := mz_add2 rfl (by decide) (by have := yR.1 15 _ _ rfl; have := yR.1 16 _ _ rfl; have := yR.1 19 _ _ rfl; omega) (by have := yR.1 15 _ _ rfl; have := yR.1 16 _ _ rfl; have := yR.1 19 _ _ rfl; omega)
          refine tr_baldR (o := o0) (k := 13) I0 q10 t_a11 (by decide) d_TrustDeskModel_isWord_46 (vp_in_iff.mpr (by have := yR.1 15 _ _ rfl; have := yR.1 16 _ _ rfl; have := yR.1 19 _ _ rfl; omega)) (fun v23 e24 => ?_)
          have := yR.a (k := 13) rfl ((v7 + 2) : Int32).toNatClampNeg
          have h25 : (v7 + 2).toNatClampNeg = (rv M0 o0 16).toNat + 2 := by have := mz_nat9 (i := (v7 + 2)) (by have := yR.1 15 _ _ rfl; have := yR.1 16 _ _ rfl; have := yR.1 19 _ _ rfl; omega); have := yR.1 15 _ _ rfl; have := yR.1 16 _ _ rfl; have := yR.1 19 _ _ rfl; omega
          have : v23.toInt = ra M0 o0 13 ((rv M0 o0 16).toNat + 2) := by rw [e24, h25]
          refine mv_aload_n d_TrustDeskModel_isWord_47 rfl rfl ?_
          refine mv_iload_n d_TrustDeskModel_isWord_48 rfl rfl ?_
          refine mv_schC (i := 34) (v := 117) d_TrustDeskModel_isWord_49 lV_TrustDeskModel_220 (by decide) rfl (by decide) (by decide) (Nat.le_of_ble_eq_true rfl) (by decide) ?_
          have := mz_hi v23
          refine mv_icmp_eqZ (tgt := 57) (a := v23.toInt) (b := 117) d_TrustDeskModel_isWord_52 (by decide) rfl (by decide) (fun b26 => ?_) (fun b26 => ?_)
          · refine mv_iinc (v := 3) (lv' := [(2, .int 3), (0, .ref o0), (1, .ref 44)]) d_TrustDeskModel_isWord_57 rfl (by decide) (by decide) rfl ?_
            refine mv_goto (tgt := 28) d_TrustDeskModel_isWord_60 (by decide) ?_
            refine mv_iload_n d_TrustDeskModel_isWord_28 rfl rfl ?_
            refine mv_aload_n d_TrustDeskModel_isWord_29 rfl rfl ?_
            refine mv_slenK (i := 34) (v := 5) d_TrustDeskModel_isWord_30 lV_TrustDeskModel_214 (by decide) rfl (by decide) (Nat.le_of_ble_eq_true rfl) ?_
            refine mv_icmp_ge_f (tgt := 63) d_TrustDeskModel_isWord_33 (by decide) (by decide) ?_
            refine mv_aload_n d_TrustDeskModel_isWord_36 rfl rfl ?_
            refine tr_getK (k := 13) q10 d_TrustDeskModel_isWord_37 f_TrustDeskModel_44_13 ?_
            refine mv_aload_n d_TrustDeskModel_isWord_40 rfl rfl ?_
            refine tr_getK (k := 16) q6 d_TrustDeskModel_isWord_41 f_TrustDeskModel_195_13 ?_
            refine mv_iload_n d_TrustDeskModel_isWord_44 rfl rfl ?_
            refine mv_iadd d_TrustDeskModel_isWord_45 ?_
            have b27 : (v7 + 3 : Int32).toInt = (v7.toInt + 3) := mz_add2 rfl (by decide) (by have := yR.1 15 _ _ rfl; have := yR.1 16 _ _ rfl; have := yR.1 19 _ _ rfl; omega) (by have := yR.1 15 _ _ rfl; have := yR.1 16 _ _ rfl; have := yR.1 19 _ _ rfl; omega)
            refine tr_baldR (o := o0) (k := 13) I0 q10 t_a11 (by decide) d_TrustDeskModel_isWord_46 (vp_in_iff.mpr (by have := yR.1 15 _ _ rfl; have := yR.1 16 _ _ rfl; have := yR.1 19 _ _ rfl; omega)) (fun v28 e29 => ?_)
            have := yR.a (k := 13) rfl ((v7 + 3) : Int32).toNatClampNeg
            have h30 : (v7 + 3).toNatClampNeg = (rv M0 o0 16).toNat + 3 := by have := mz_nat9 (i := (v7 + 3)) (by have := yR.1 15 _ _ rfl; have := yR.1 16 _ _ rfl; have := yR.1 19 _ _ rfl; omega); have := yR.1 15 _ _ rfl; have := yR.1 16 _ _ rfl; have := yR.1 19 _ _ rfl; omega
            have : v28.toInt = ra M0 o0 13 ((rv M0 o0 16).toNat + 3) := by rw [e29, h30]
            refine mv_aload_n d_TrustDeskModel_isWord_47 rfl rfl ?_
            refine mv_iload_n d_TrustDeskModel_isWord_48 rfl rfl ?_
            refine mv_schC (i := 34) (v := 115) d_TrustDeskModel_isWord_49 lV_TrustDeskModel_220 (by decide) rfl (by decide) (by decide) (Nat.le_of_ble_eq_true rfl) (by decide) ?_
            have := mz_hi v28
            refine mv_icmp_eqZ (tgt := 57) (a := v28.toInt) (b := 115) d_TrustDeskModel_isWord_52 (by decide) rfl (by decide) (fun b31 => ?_) (fun b31 => ?_)
            · refine mv_iinc (v := 4) (lv' := [(2, .int 4), (0, .ref o0), (1, .ref 44)]) d_TrustDeskModel_isWord_57 rfl (by decide) (by decide) rfl ?_
              refine mv_goto (tgt := 28) d_TrustDeskModel_isWord_60 (by decide) ?_
              refine mv_iload_n d_TrustDeskModel_isWord_28 rfl rfl ?_
              refine mv_aload_n d_TrustDeskModel_isWord_29 rfl rfl ?_
              refine mv_slenK (i := 34) (v := 5) d_TrustDeskModel_isWord_30 lV_TrustDeskModel_214 (by decide) rfl (by decide) (Nat.le_of_ble_eq_true rfl) ?_
              refine mv_icmp_ge_f (tgt := 63) d_TrustDeskModel_isWord_33 (by decide) (by decide) ?_
              refine mv_aload_n d_TrustDeskModel_isWord_36 rfl rfl ?_
              refine tr_getK (k := 13) q10 d_TrustDeskModel_isWord_37 f_TrustDeskModel_44_13 ?_
              refine mv_aload_n d_TrustDeskModel_isWord_40 rfl rfl ?_
              refine tr_getK (k := 16) q6 d_TrustDeskModel_isWord_41 f_TrustDeskModel_195_13 ?_
              refine mv_iload_n d_TrustDeskModel_isWord_44 rfl rfl ?_
              refine mv_iadd d_TrustDeskModel_isWord_45 ?_
              have b32 : (v7 + 4 : Int32).toInt = (v7.toInt + 4) := mz_add2 rfl (by decide) (by have := yR.1 15 _ _ rfl; have := yR.1 16 _ _ rfl; have := yR.1 19 _ _ rfl; omega) (by have := yR.1 15 _ _ rfl; have := yR.1 16 _ _ rfl; have := yR.1 19 _ _ rfl; omega)
              refine tr_baldR (o := o0) (k := 13) I0 q10 t_a11 (by decide) d_TrustDeskModel_isWord_46 (vp_in_iff.mpr (by have := yR.1 15 _ _ rfl; have := yR.1 16 _ _ rfl; have := yR.1 19 _ _ rfl; omega)) (fun v33 e34 => ?_)
              have := yR.a (k := 13) rfl ((v7 + 4) : Int32).toNatClampNeg
              have h35 : (v7 + 4).toNatClampNeg = (rv M0 o0 16).toNat + 4 := by have := mz_nat9 (i := (v7 + 4)) (by have := yR.1 15 _ _ rfl; have := yR.1 16 _ _ rfl; have := yR.1 19 _ _ rfl; omega); have := yR.1 15 _ _ rfl; have := yR.1 16 _ _ rfl; have := yR.1 19 _ _ rfl; omega
              have : v33.toInt = ra M0 o0 13 ((rv M0 o0 16).toNat + 4) := by rw [e34, h35]
              refine mv_aload_n d_TrustDeskModel_isWord_47 rfl rfl ?_
              refine mv_iload_n d_TrustDeskModel_isWord_48 rfl rfl ?_
              refine mv_schC (i := 34) (v := 116) d_TrustDeskModel_isWord_49 lV_TrustDeskModel_220 (by decide) rfl (by decide) (by decide) (Nat.le_of_ble_eq_true rfl) (by decide) ?_
              have := mz_hi v33
              refine mv_icmp_eqZ (tgt := 57) (a := v33.toInt) (b := 116) d_TrustDeskModel_isWord_52 (by decide) rfl (by decide) (fun b36 => ?_) (fun b36 => ?_)
              · refine mv_iinc (v := 5) (lv' := [(2, .int 5), (0, .ref o0), (1, .ref 44)]) d_TrustDeskModel_isWord_57 rfl (by decide) (by decide) rfl ?_
                refine mv_goto (tgt := 28) d_TrustDeskModel_isWord_60 (by decide) ?_
                refine mv_iload_n d_TrustDeskModel_isWord_28 rfl rfl ?_
                refine mv_aload_n d_TrustDeskModel_isWord_29 rfl rfl ?_
                refine mv_slenK (i := 34) (v := 5) d_TrustDeskModel_isWord_30 lV_TrustDeskModel_214 (by decide) rfl (by decide) (Nat.le_of_ble_eq_true rfl) ?_
                refine mv_icmp_ge_t (tgt := 63) d_TrustDeskModel_isWord_33 (by decide) (by decide) ?_
                refine mv_iconst (v := 1) d_TrustDeskModel_isWord_63 (by decide) ?_
                exact mv_iret d_TrustDeskModel_isWord_64 rfl (by decide) ⟨_, I0, _, rfl, by decide, by decide, yR, (fun _ => by have := yR.1 15 _ _ rfl; have := yR.1 16 _ _ rfl; have := yR.1 19 _ _ rfl; omega), (fun _ => ⟨by have := yR.1 15 _ _ rfl; have := yR.1 16 _ _ rfl; have := yR.1 19 _ _ rfl; omega, by have := yR.1 15 _ _ rfl; have := yR.1 16 _ _ rfl; have := yR.1 19 _ _ rfl; omega, by have := yR.1 15 _ _ rfl; have := yR.1 16 _ _ rfl; have := yR.1 19 _ _ rfl; omega, by have := yR.1 15 _ _ rfl; have := yR.1 16 _ _ rfl; have := yR.1 19 _ _ rfl; omega, by have := yR.1 15 _ _ rfl; have := yR.1 16 _ _ rfl; have := yR.1 19 _ _ rfl; omega, by have := yR.1 15 _ _ rfl; have := yR.1 16 _ _ rfl; have := yR.1 19 _ _ rfl; omega, by have := yR.1 15 _ _ rfl; have := yR.1 16 _ _ rfl; have := yR.1 19 _ _ rfl; omega⟩), (fun h => absurd h (by decide))⟩
              · refine mv_iconst (v := 0) d_TrustDeskModel_isWord_55 (by decide) ?_
                exact mv_iret d_TrustDeskModel_isWord_56 rfl (by decide) ⟨_, I0, _, rfl, by decide, by decide, yR, (fun h => absurd h (by decide)), (fun h => absurd h (by decide)), (fun _ h => by obtain ⟨h1, h2, h3, h4, h5, h6, h7⟩ := h; have := yR.1 15 _ _ rfl; have := yR.1 16 _ _ rfl; have := yR.1 19 _ _ rfl; omega)⟩
            · refine mv_iconst (v := 0) d_TrustDeskModel_isWord_55 (by decide) ?_
              exact mv_iret d_TrustDeskModel_isWord_56 rfl (by decide) ⟨_, I0, _, rfl, by decide, by decide, yR, (fun h => absurd h (by decide)), (fun h => absurd h (by decide)), (fun _ h => by obtain ⟨h1, h2, h3, h4, h5, h6, h7⟩ := h; have := yR.1 15 _ _ rfl; have := yR.1 16 _ _ rfl; have := yR.1 19 _ _ rfl; omega)⟩
          · refine mv_iconst (v := 0) d_TrustDeskModel_isWord_55 (by decide) ?_
            exact mv_iret d_TrustDeskModel_isWord_56 rfl (by decide) ⟨_, I0, _, rfl, by decide, by decide, yR, (fun h => absurd h (by decide)), (fun h => absurd h (by decide)), (fun _ h => by obtain ⟨h1, h2, h3, h4, h5, h6, h7⟩ := h; have := yR.1 15 _ _ rfl; have := yR.1 16 _ _ rfl; have := yR.1 19 _ _ rfl; omega)⟩
        · refine mv_iconst (v := 0) d_TrustDeskModel_isWord_55 (by decide) ?_
          exact mv_iret d_TrustDeskModel_isWord_56 rfl (by decide) ⟨_, I0, _, rfl, by decide, by decide, yR, (fun h => absurd h (by decide)), (fun h => absurd h (by decide)), (fun _ h => by obtain ⟨h1, h2, h3, h4, h5, h6, h7⟩ := h; have := yR.1 15 _ _ rfl; have := yR.1 16 _ _ rfl; have := yR.1 19 _ _ rfl; omega)⟩
      · refine mv_iconst (v := 0) d_TrustDeskModel_isWord_55 (by decide) ?_
        exact mv_iret d_TrustDeskModel_isWord_56 rfl (by decide) ⟨_, I0, _, rfl, by decide, by decide, yR, (fun h => absurd h (by decide)), (fun h => absurd h (by decide)), (fun _ h => by obtain ⟨h1, h2, h3, h4, h5, h6, h7⟩ := h; have := yR.1 15 _ _ rfl; have := yR.1 16 _ _ rfl; have := yR.1 19 _ _ rfl; omega)⟩
    · refine mv_iconst (v := 0) d_TrustDeskModel_isWord_24 (by decide) ?_
      exact mv_iret d_TrustDeskModel_isWord_25 rfl (by decide) ⟨_, I0, _, rfl, by decide, by decide, yR, (fun h => absurd h (by decide)), (fun h => absurd h (by decide)), (fun _ h => by obtain ⟨h1, h2, h3, h4, h5, h6, h7⟩ := h; have := yR.1 15 _ _ rfl; have := yR.1 16 _ _ rfl; have := yR.1 19 _ _ rfl; omega)⟩
theorem d_TrustDeskModel_readClause_29 : decode kY_TrustDeskModel_readClause.2.1 29 = .ok (.ifCond .ne 11, 3) := by decide +kernel
theorem d_TrustDeskModel_readClause_32 : decode kY_TrustDeskModel_readClause.2.1 32 = .ok (.aload_n 0, 1) := by decide +kernel
theorem d_TrustDeskModel_readClause_33 : decode kY_TrustDeskModel_readClause.2.1 33 = .ok (.iconst 1, 1) := by decide +kernel
theorem d_TrustDeskModel_readClause_34 : decode kY_TrustDeskModel_readClause.2.1 34 = .ok (.invokevirtual 240, 3) := by decide +kernel
theorem d_TrustDeskModel_readClause_37 : decode kY_TrustDeskModel_readClause.2.1 37 = .ok (.goto 33, 3) := by decide +kernel
def w_TrustDeskModel_readClause_x : List Nat := [1315, 1316, 1317, 1318, 1319, 1320, 1322, 1324, 20004, 20005, 20006, 20007, 20008, 20009, 20010, 20011, 20012, 20025, 20026]
set_option maxHeartbeats 100000000 in theorem tc_TrustDeskModel_readClause_x {g : mj_G} {l : Launch} {d : Nat} {T0 : tm_H} {M0 : mj_M} {n0 x9 : Nat} {o0 : Nat} (h_o0 : T0 o0 = some (0, 13, 0)) (yR : rI M0 o0) (yWW : rW M0 o0) (yw : rv M0 o0 19 = 0) (yo : rv M0 o0 17 ≠ 0) (yq : rv M0 o0 22 = 0) (ym : ra M0 o0 6 44 ≤ 12) {pb : Nat → Int} {pn : Nat} {pa : Int} {ps : p_S} (yO : pO M0 o0 pb pn pa ps) {pc9 : Nat} {pN9 : List (Nat × Nat)} (yk : ra M0 o0 6 44 = (pc9 : Int)) (yM : pN M0 o0 pn pN9) (I0 : tm_I tm_FT (tm_in w_TrustDeskModel_readClause_x) x9 T0 M0 n0 T0 M0 n0) : mj_Met g l kY_TrustDeskModel_readClause (d + 26) [.ref o0] M0 n0 0 0 (tm_Q tm_FT (tm_in w_TrustDeskModel_readClause_x) x9 T0 M0 n0 (fun r _ M => r = none ∧ rI M o0 ∧ (rW M o0) ∧ (rO M0 M o0) ∧ (rv M0 o0 16 ≤ rv M o0 16 ∧ (rv M o0 19 = 0 → rv M0 o0 16 < rv M o0 16)) ∧ (rv M o0 19 = 0 → rv M o0 22 = 0) ∧ (rwE M0 o0 → rv M o0 19 = 0 → ra M o0 7 (880 + ra M0 o0 6 44).toNat = 8 ∧ ra M o0 6 44 = ra M0 o0 6 44 + 1) ∧ (ra M o0 6 44 ≤ 12) ∧ (pO M o0 pb pn pa ((p_cl pb pn pa (pc9, pN9, ps)).2)) ∧ (rv M o0 19 = 0 → ra M o0 6 44 = (pc9 : Int) + 1) ∧ (rv M o0 19 = 0 → pN M o0 pn (p_cl pb pn pa (pc9, pN9, ps)).1))) := by
  refine mj_enter (by decide) (Nat.le_of_ble_eq_true rfl) ?_
  have yT := yWW.1
  have yS : rv M0 o0 19 = 0 → ra M0 o0 5 44 ≤ rv M0 o0 16 := fun h9 => (yWW.2 h9).1
  have yG := (yWW.2 yw).2
  have yN := yG.2.2
  have := yR.2 6 _ _ rfl 44
  have yE0 := rE.rf yT
  have K1 : rK M0 M0 o0 ((880 + ra M0 o0 6 44).toNat) := rK.rf
  have K2 : nN M0 o0 := yN
  have := yO.w
  have := yM.1
  refine mv_aload_n d_TrustDeskModel_readClause_0 rfl rfl ?_
  refine mv_ldcSw (id := 42) (tx := "end") d_TrustDeskModel_readClause_1 (List.mem_of_getElem? (i := 32) rfl) ?_
  obtain ⟨_, b9, -⟩ := I0.1 _ _ h_o0
  refine mv_callV (kc' := 0) (ks' := 0) (As := [.ref 42]) (st9 := [.ref 42, .ref o0]) d_TrustDeskModel_readClause_4 lV_TrustDeskModel_244 b9 rfl (tc_TrustDeskModel_isWord_s1_42_x (d := (d + 21)) (x9 := x9) (o0 := o0) h_o0 yR I0.start) rfl (Nat.le_of_ble_eq_true rfl) (Nat.le_of_ble_eq_true rfl) (Nat.le_of_ble_eq_true rfl) (hst := rfl) (fun b3r M4 n5 b3 => ?_)
  obtain ⟨T6, J7, v10, rfl, b11, b12, R13, f14, f15, f16⟩ := b3
  have I8 := I0.call J7 (tm_sub (by decide)) (Or.inl rfl)
  have t17 := J7.up h_o0
  replace f14 := Im.i f14
  replace f15 := Im.i f15
  replace f16 := Im.i f16
  have z18 := (rv_c I0 J7 (I0.up h_o0) (k := 15) rfl)
  have z19 := (rv_c I0 J7 (I0.up h_o0) (k := 16) rfl)
  have z20 := (rv_c I0 J7 (I0.up h_o0) (k := 17) rfl)
  have z21 := (rv_c I0 J7 (I0.up h_o0) (k := 19) rfl)
  have z22 := (rv_c I0 J7 (I0.up h_o0) (k := 22) rfl)
  have z23 := (rv_c I0 J7 (I0.up h_o0) (k := 24) rfl)
  have z24 := (ra_call I0 J7 (I0.up h_o0) (k := 5) rfl rfl rfl 44)
  have z25 := (ra_call I0 J7 (I0.up h_o0) (k := 6) rfl rfl rfl 44)
  have E26 : rE M0 M4 o0 0 0 := yE0.same (rE_hv I0 J7 (I0.up h_o0) 15 19 (by decide)) (rE_ha I0 J7 (I0.up h_o0) (by decide))
  have K27 : rK M0 M4 o0 ((880 + ra M0 o0 6 44).toNat) := K1.same (sA_c I0 J7 (I0.up h_o0) (by decide +kernel))
  have K28 : nN M4 o0 := K2.same (sA_c I0 J7 (I0.up h_o0) (by decide +kernel)) (sF_c I0 J7 (I0.up h_o0) (by decide +kernel))
  have K29 : pN M4 o0 pn pN9 := yM.same (sA_c I0 J7 (I0.up h_o0) (by decide +kernel)) (sF_c I0 J7 (I0.up h_o0) (by decide +kernel))
  have Z930 : pO M4 o0 pb pn pa ps := yO.same (rE_hv I0 J7 (I0.up h_o0) 14 20 (by decide)) (rv_c I0 J7 (I0.up h_o0) (k := 23) rfl) (ra_call I0 J7 (I0.up h_o0) (k := 13) rfl rfl rfl)
  have d31 := Im.i (pO.w_26 yO (by have := yR.1 15 _ _ rfl; have := yR.1 16 _ _ rfl; have := yR.1 19 _ _ rfl; omega) (Im.o f15) (Im.o f16) (by have := yR.1 15 _ _ rfl; have := yR.1 16 _ _ rfl; have := yR.1 19 _ _ rfl; omega))
  refine mv_istore_n (lv' := [(1, .int v10), (0, .ref o0)]) d_TrustDeskModel_readClause_7 rfl (by decide) rfl ?_
  refine mv_iload_n d_TrustDeskModel_readClause_8 rfl rfl ?_
  have := mz_hi v10
  refine mv_if_neZ (tgt := 40) (a := v10.toInt) d_TrustDeskModel_readClause_9 (by decide) rfl (fun b32 => ?_) (fun b32 => ?_)
  · refine mv_aload_n d_TrustDeskModel_readClause_40 rfl rfl ?_
    obtain ⟨a34, q33, t_a34⟩ := tm_atR I8 t17 (k := 6) rfl
    refine tr_getK q33 d_TrustDeskModel_readClause_41 f_TrustDeskModel_23_13 ?_
    refine mv_bipush (v := 44) d_TrustDeskModel_readClause_44 (by decide) ?_
    refine tr_ialdR (o := o0) (k := 6) I8 q33 t_a34 (by decide) d_TrustDeskModel_readClause_46 (by unfold vp_in; decide) (fun v35 e36 => ?_)
    have := R13.a (k := 6) rfl (44 : Int32).toNatClampNeg
    have : v35.toInt = ra M4 o0 6 44 := e36
    have : v35.toInt = _ := Eq.trans e36 z25
    refine mv_bipush (v := 12) d_TrustDeskModel_readClause_47 (by decide) ?_
    have := mz_hi v35
    refine mv_icmp_eqZ (tgt := 65) (a := v35.toInt) (b := 12) d_TrustDeskModel_readClause_49 (by decide) rfl (by decide) (fun b37 => ?_) (fun b37 => ?_)
    · refine mv_aload_n d_TrustDeskModel_readClause_65 rfl rfl ?_
      refine mv_iconst (v := 4) d_TrustDeskModel_readClause_66 (by decide) ?_
      obtain ⟨_, b44, -⟩ := I8.1 _ _ t17
      have : (4 : Int32).toInt = 4 := by decide
      refine mv_callV (kc' := 0) (ks' := 0) (As := [.int 4]) (st9 := [.int 4, .ref o0]) d_TrustDeskModel_readClause_67 lV_TrustDeskModel_240 b44 rfl (tc_TrustDeskModel_fails_x (d := (d + 25)) (x9 := x9) (o0 := o0) (x1 := 4) t17 R13 (by decide) Z930 I8.start) rfl (Nat.le_of_ble_eq_true rfl) (Nat.le_of_ble_eq_true rfl) (Nat.le_of_ble_eq_true rfl) (hst := rfl) (fun b38r M39 n40 b38 => ?_)
      obtain ⟨T41, J42, rfl, R45, f46, f47⟩ := b38
      have I43 := I8.call J42 (tm_sub (by decide)) (Or.inl rfl)
      have t48 := J42.up t17
      have z49 := (rv_c I8 J42 (I8.up h_o0) (k := 15) rfl).trans z18
      have z50 := (rv_c I8 J42 (I8.up h_o0) (k := 16) rfl).trans z19
      have z51 := (rv_c I8 J42 (I8.up h_o0) (k := 17) rfl).trans z20
      have z52 := (rv_c I8 J42 (I8.up h_o0) (k := 22) rfl).trans z22
      have z53 := (rv_c I8 J42 (I8.up h_o0) (k := 24) rfl).trans z23
      have z54 := (ra_call I8 J42 (I8.up h_o0) (k := 5) rfl rfl rfl 44).trans z24
      have z55 := (ra_call I8 J42 (I8.up h_o0) (k := 6) rfl rfl rfl 44).trans z25
      have E56 : rE M0 M39 o0 0 0 := E26.fails (rE_hv I8 J42 (I8.up h_o0) 15 18 (by decide)) (rE_ha I8 J42 (I8.up h_o0) (by decide)) f46 0 0
      have K57 : rK M0 M39 o0 ((880 + ra M0 o0 6 44).toNat) := K27.same (sA_c I8 J42 (I8.up h_o0) (by decide +kernel))
      have K58 : nN M39 o0 := K28.same (sA_c I8 J42 (I8.up h_o0) (by decide +kernel)) (sF_c I8 J42 (I8.up h_o0) (by decide +kernel))
      have K59 : pN M39 o0 pn pN9 := K29.same (sA_c I8 J42 (I8.up h_o0) (by decide +kernel)) (sF_c I8 J42 (I8.up h_o0) (by decide +kernel))
      rw [show (4 : Int32).toInt = 4 from by decide] at f47
      obtain ⟨s60, e61⟩ : ∃ s9 : p_S, p_fl pb pn 4 ps = s9 := ⟨_, rfl⟩
      rw [e61] at f47
      have := f47.w
      clear z18 z19 z20 z22 z23 z24 z25
      have q62 := J42.keep t17 (by decide) q33
      have t63 := J42.up t_a34
      refine mv_aload_n d_TrustDeskModel_readClause_70 rfl rfl ?_
      obtain ⟨_, b64, -⟩ := I43.1 _ _ t48
      refine mv_callV (kc1 := 0) (ks1 := 0) (kc' := 0) (ks' := 0) (As := []) (st9 := [.ref o0]) d_TrustDeskModel_readClause_71 lV_TrustDeskModel_230 b64 rfl (mj_enter (by decide) (Nat.le_of_ble_eq_true rfl) ?_) rfl (Nat.le_of_ble_eq_true rfl) (Nat.le_of_ble_eq_true rfl) (Nat.le_of_ble_eq_true rfl) (hst := rfl) (fun _ _ _ h => h)
      refine mv_aload_n d_TrustDeskModel_isWell_0 rfl rfl ?_
      obtain ⟨v66, q65⟩ := tm_atI I43 t48 (k := 19) rfl
      refine tr_getK q65 d_TrustDeskModel_isWell_1 f_TrustDeskModel_224_13 ?_
      have := R45.f (k := 19) q65 rfl
      have := tm_rv q65
      refine mv_if_neZ (tgt := 11) (a := v66.toInt) d_TrustDeskModel_isWell_4 (by decide) rfl (fun b67 => ?_) (fun b67 => ?_)
      · refine mv_iconst (v := 0) d_TrustDeskModel_isWell_11 (by decide) ?_
        refine mv_iret d_TrustDeskModel_isWell_12 rfl (by decide) ?_
        refine mv_if_ne_f (tgt := 78) d_TrustDeskModel_readClause_74 (by decide) (by decide) ?_
        exact mv_vret d_TrustDeskModel_readClause_77 rfl ⟨_, I43, rfl, R45, (rW.of E56.1 (fun h9 => by exfalso; skip; have := R45.1 15 _ _ rfl; have := R45.1 16 _ _ rfl; have := R45.1 19 _ _ rfl; omega) (fun h9 => by exfalso; skip; have := R45.1 15 _ _ rfl; have := R45.1 16 _ _ rfl; have := R45.1 19 _ _ rfl; omega)), (rO.of E56 K57 (by have := yR.2 6 _ _ rfl 44; omega)), ⟨E56.2.1, fun w9 => by skip; have := E56.w2 w9; omega⟩, (fun w9 => by skip; omega), (fun _ h9 => by exfalso; skip; have := R45.1 15 _ _ rfl; have := R45.1 16 _ _ rfl; have := R45.1 19 _ _ rfl; omega), (by have := R45.1 15 _ _ rfl; have := R45.1 16 _ _ rfl; have := R45.1 19 _ _ rfl; omega), (by first | (have := pW1 (Im.o d31) (by omega); have := Z930.wk; rw [show (p_cl pb pn pa (pc9, pN9, ps)).2 = s60 from (by unfold p_cl; unfold p_tru; (try simp only [e61]); ((repeat' (first | (with_reducible rfl) | split)) <;> (first | ((try simp only [e61]); done) | ((try simp only [e61]); first | exact p_sg_Z _ (by omega) | omega) | (exfalso; omega))))]; exact f47) | (exfalso; have := R45.1 15 _ _ rfl; have := R45.1 16 _ _ rfl; have := R45.1 19 _ _ rfl; omega)), (fun w9 => by skip; omega), (fun h9 => by exfalso; skip; have := R45.1 15 _ _ rfl; have := R45.1 16 _ _ rfl; have := R45.1 19 _ _ rfl; omega)⟩
      · exfalso
        have := R45.1 15 _ _ rfl; have := R45.1 16 _ _ rfl; have := R45.1 19 _ _ rfl; omega
    · refine mv_iload_n d_TrustDeskModel_readClause_52 rfl rfl ?_
      have := mz_hi v10
      refine mv_if_eqZ (tgt := 70) (a := v10.toInt) d_TrustDeskModel_readClause_53 (by decide) rfl (fun b68 => absurd b68 (by omega)) (fun b68 => ?_)
      refine mv_aload_n d_TrustDeskModel_readClause_56 rfl rfl ?_
      obtain ⟨v70, q69⟩ := tm_atI I8 t17 (k := 24) rfl
      refine tr_getK q69 d_TrustDeskModel_readClause_57 f_TrustDeskModel_321_13 ?_
      have := R13.f (k := 24) q69 rfl
      have := (tm_rv q69).symm.trans z23
      have := tm_rv q69
      refine mv_bipush (v := 6) d_TrustDeskModel_readClause_60 (by decide) ?_
      have := mz_hi v70
      refine mv_icmp_neZ (tgt := 70) (a := v70.toInt) (b := 6) d_TrustDeskModel_readClause_62 (by decide) rfl (by decide) (fun b71 => ?_) (fun b71 => ?_)
      · refine mv_aload_n d_TrustDeskModel_readClause_70 rfl rfl ?_
        obtain ⟨_, b72, -⟩ := I8.1 _ _ t17
        refine mv_callV (kc1 := 0) (ks1 := 0) (kc' := 0) (ks' := 0) (As := []) (st9 := [.ref o0]) d_TrustDeskModel_readClause_71 lV_TrustDeskModel_230 b72 rfl (mj_enter (by decide) (Nat.le_of_ble_eq_true rfl) ?_) rfl (Nat.le_of_ble_eq_true rfl) (Nat.le_of_ble_eq_true rfl) (Nat.le_of_ble_eq_true rfl) (hst := rfl) (fun _ _ _ h => h)
        refine mv_aload_n d_TrustDeskModel_isWell_0 rfl rfl ?_
        obtain ⟨v74, q73⟩ := tm_atI I8 t17 (k := 19) rfl
        refine tr_getK q73 d_TrustDeskModel_isWell_1 f_TrustDeskModel_224_13 ?_
        have := R13.f (k := 19) q73 rfl
        have := (tm_rv q73).symm.trans z21
        have := tm_rv q73
        have := mz_hi v74
        refine mv_if_neZ (tgt := 11) (a := v74.toInt) d_TrustDeskModel_isWell_4 (by decide) rfl (fun b75 => ?_) (fun b75 => ?_)
        · refine mv_iconst (v := 0) d_TrustDeskModel_isWell_11 (by decide) ?_
          refine mv_iret d_TrustDeskModel_isWell_12 rfl (by decide) ?_
          refine mv_if_ne_f (tgt := 78) d_TrustDeskModel_readClause_74 (by decide) (by decide) ?_
          exact mv_vret d_TrustDeskModel_readClause_77 rfl ⟨_, I8, rfl, R13, (rW.of E26.1 (E26.s yS (by decide)) (fun w9 => by skip; exact rG.step yG yR E26 w9 K27 (by have := yR.2 6 _ _ rfl 44; omega) (by have := R13.1 15 _ _ rfl; have := R13.1 16 _ _ rfl; have := R13.1 19 _ _ rfl; omega) (by have := R13.1 15 _ _ rfl; have := R13.1 16 _ _ rfl; have := R13.1 19 _ _ rfl; omega) (fun h9 => by exfalso; have := R13.1 15 _ _ rfl; have := R13.1 16 _ _ rfl; have := R13.1 19 _ _ rfl; omega) (fun h9 => (by have := R13.1 15 _ _ rfl; have := R13.1 16 _ _ rfl; have := R13.1 19 _ _ rfl; omega)) (by have := R13.1 15 _ _ rfl; have := R13.1 16 _ _ rfl; have := R13.1 19 _ _ rfl; omega) K28)), (rO.of E26 K27 (by have := yR.2 6 _ _ rfl 44; omega)), ⟨E26.2.1, fun w9 => by skip; have := E26.w2 w9; omega⟩, (fun w9 => by skip; omega), (fun _ h9 => absurd h9 (by have := R13.1 15 _ _ rfl; have := R13.1 16 _ _ rfl; have := R13.1 19 _ _ rfl; omega)), (by have := R13.1 15 _ _ rfl; have := R13.1 16 _ _ rfl; have := R13.1 19 _ _ rfl; omega), (by first | (have := pW1 (Im.o d31) (by omega); have := Z930.wk; rw [show (p_cl pb pn pa (pc9, pN9, ps)).2 = ps from (by unfold p_cl; unfold p_tru; (try simp only [eq_self]); ((repeat' (first | (with_reducible rfl) | split)) <;> (first | ((try simp only [eq_self]); done) | ((try simp only [eq_self]); first | exact p_sg_Z _ (by omega) | omega) | (exfalso; omega))))]; exact Z930) | (exfalso; have := R13.1 15 _ _ rfl; have := R13.1 16 _ _ rfl; have := R13.1 19 _ _ rfl; omega)), (fun w9 => by skip; omega), (fun h9 => by exfalso; skip; have := R13.1 15 _ _ rfl; have := R13.1 16 _ _ rfl; have := R13.1 19 _ _ rfl; omega)⟩
        · refine mv_iconst (v := 1) d_TrustDeskModel_isWell_7 (by decide) ?_
          refine mv_goto (tgt := 12) d_TrustDeskModel_isWell_8 (by decide) ?_
          refine mv_iret d_TrustDeskModel_isWell_12 rfl (by decide) ?_
          refine mv_if_ne_t (tgt := 78) d_TrustDeskModel_readClause_74 (by decide) (by decide) ?_
          refine mv_aload_n d_TrustDeskModel_readClause_78 rfl rfl ?_
          refine mv_ldcSw (id := 43) (tx := "mark") d_TrustDeskModel_readClause_79 (List.mem_of_getElem? (i := 33) rfl) ?_
          obtain ⟨_, b82, -⟩ := I8.1 _ _ t17
          refine mv_callV (kc' := 0) (ks' := 0) (As := [.ref 43]) (st9 := [.ref 43, .ref o0]) d_TrustDeskModel_readClause_82 lV_TrustDeskModel_244 b82 rfl (tc_TrustDeskModel_isWord_s1_43_x (d := (d + 21)) (x9 := x9) (o0 := o0) t17 R13 I8.start) rfl (Nat.le_of_ble_eq_true rfl) (Nat.le_of_ble_eq_true rfl) (Nat.le_of_ble_eq_true rfl) (hst := rfl) (fun b76r M77 n78 b76 => ?_)
          obtain ⟨T79, J80, v83, rfl, b84, b85, R86, f87, f88, f89⟩ := b76
          have I81 := I8.call J80 (tm_sub (by decide)) (Or.inl rfl)
          have t90 := J80.up t17
          replace f87 := Im.i f87
          replace f88 := Im.i f88
          replace f89 := Im.i f89
          have z91 := (rv_c I8 J80 (I8.up h_o0) (k := 15) rfl).trans z18
          have z92 := (rv_c I8 J80 (I8.up h_o0) (k := 16) rfl).trans z19
          have z93 := (rv_c I8 J80 (I8.up h_o0) (k := 17) rfl).trans z20
          have z94 := (rv_c I8 J80 (I8.up h_o0) (k := 19) rfl).trans z21
          have z95 := (rv_c I8 J80 (I8.up h_o0) (k := 22) rfl).trans z22
          have z96 := (rv_c I8 J80 (I8.up h_o0) (k := 24) rfl).trans z23
          have z97 := (ra_call I8 J80 (I8.up h_o0) (k := 5) rfl rfl rfl 44).trans z24
          have z98 := (ra_call I8 J80 (I8.up h_o0) (k := 6) rfl rfl rfl 44).trans z25
          have E99 : rE M0 M77 o0 0 0 := E26.same (rE_hv I8 J80 (I8.up h_o0) 15 19 (by decide)) (rE_ha I8 J80 (I8.up h_o0) (by decide))
          have K100 : rK M0 M77 o0 ((880 + ra M0 o0 6 44).toNat) := K27.same (sA_c I8 J80 (I8.up h_o0) (by decide +kernel))
          have K101 : nN M77 o0 := K28.same (sA_c I8 J80 (I8.up h_o0) (by decide +kernel)) (sF_c I8 J80 (I8.up h_o0) (by decide +kernel))
          have K102 : pN M77 o0 pn pN9 := K29.same (sA_c I8 J80 (I8.up h_o0) (by decide +kernel)) (sF_c I8 J80 (I8.up h_o0) (by decide +kernel))
          have Z9103 : pO M77 o0 pb pn pa ps := Z930.same (rE_hv I8 J80 (I8.up h_o0) 14 20 (by decide)) (rv_c I8 J80 (I8.up h_o0) (k := 23) rfl) (ra_call I8 J80 (I8.up h_o0) (k := 13) rfl rfl rfl)
          have d104 := Im.i (pO.w_24 Z930 (by have := R13.1 15 _ _ rfl; have := R13.1 16 _ _ rfl; have := R13.1 19 _ _ rfl; omega) (Im.o f88) (Im.o f89) (by have := R13.1 15 _ _ rfl; have := R13.1 16 _ _ rfl; have := R13.1 19 _ _ rfl; omega))
          clear z22 z23 z24 z25
          have q105 := J80.keep t17 (by decide) q33
          have t106 := J80.up t_a34
          have q107 := J80.keep t17 (by decide) q69
          have q108 := J80.keep t17 (by decide) q73
          refine mv_istore_n (lv' := [(2, .int v83), (1, .int v10), (0, .ref o0)]) d_TrustDeskModel_readClause_85 rfl (by decide) rfl ?_
          refine mv_aload_n d_TrustDeskModel_readClause_86 rfl rfl ?_
          refine mv_iload_n d_TrustDeskModel_readClause_87 rfl rfl ?_
          have := mz_hi v10
          refine mv_if_eqZ (tgt := 96) (a := v10.toInt) d_TrustDeskModel_readClause_88 (by decide) rfl (fun b109 => absurd b109 (by omega)) (fun b109 => ?_)
          refine mv_bipush (v := 8) d_TrustDeskModel_readClause_91 (by decide) ?_
          refine mv_goto (tgt := 107) d_TrustDeskModel_readClause_93 (by decide) ?_
          obtain ⟨_, b116, -⟩ := I81.1 _ _ t90
          have : (8 : Int32).toInt = 8 := by decide
          refine mv_callV (kc' := 0) (ks' := 0) (As := [.int 8]) (st9 := [.int 8, .ref o0]) d_TrustDeskModel_readClause_107 lV_TrustDeskModel_342 b116 rfl (tc_TrustDeskModel_begin_x (d := (d + 23)) (x9 := x9) (o0 := o0) (x1 := 8) t90 R86 E99.1 (E99.s yS (by decide)) (by have := R86.1 15 _ _ rfl; have := R86.1 16 _ _ rfl; have := R86.1 19 _ _ rfl; omega) (by have := f87.o (by omega); omega) (by have := R86.1 15 _ _ rfl; have := R86.1 16 _ _ rfl; have := R86.1 19 _ _ rfl; omega) Z9103 I81.start) rfl (Nat.le_of_ble_eq_true rfl) (Nat.le_of_ble_eq_true rfl) (Nat.le_of_ble_eq_true rfl) (hst := rfl) (fun b110r M111 n112 b110 => ?_)
          obtain ⟨T113, J114, v117, rfl, R118, f119, f120, f121, f122, f123, f124, f125⟩ := b110
          have I115 := I81.call J114 (tm_sub (by decide)) (Or.inl rfl)
          have t126 := J114.up t90
          have := f119.2.1
          have f127 := Im.i f119.w.2
          have f128 := Im.i f119.w2
          have z129 := (rv_c I81 J114 (I81.up h_o0) (k := 19) rfl).trans z94
          have z130 := (rv_c I81 J114 (I81.up h_o0) (k := 22) rfl).trans z95
          have z131 := (rv_c I81 J114 (I81.up h_o0) (k := 24) rfl).trans z96
          have z132 := (ra_call I81 J114 (I81.up h_o0) (k := 5) rfl rfl rfl 44).trans z97
          have E133 : rE M0 M111 o0 0 1 := E99.trans f119 (by decide) (yR.2 5 _ _ rfl 44).1 (by decide) (by decide)
          have h134 : (880 + ra M77 o0 6 44).toNat = (880 + ra M0 o0 6 44).toNat := by omega
          rw [h134] at f122 f123 f124
          have K135 : rK M0 M111 o0 ((880 + ra M0 o0 6 44).toNat) := K100.trans f124
          have K136 : nN M111 o0 := K101.same (sA_c I81 J114 (I81.up h_o0) (by decide +kernel)) (sF_c I81 J114 (I81.up h_o0) (by decide +kernel))
          have K137 : pN M111 o0 pn pN9 := K102.same (sA_c I81 J114 (I81.up h_o0) (by decide +kernel)) (sF_c I81 J114 (I81.up h_o0) (by decide +kernel))
          obtain ⟨s138, e139⟩ : ∃ s9 : p_S, p_nx ps = s9 := ⟨_, rfl⟩
          rw [e139] at f125
          have := f125.w
          clear z95 z96
          have q140 := J114.keep t90 (by decide) q105
          have t141 := J114.up t106
          have q142 := J114.keep t90 (by decide) q107
          have q143 := J114.keep t90 (by decide) q108
          refine mv_istore_n (lv' := [(3, .int v117), (2, .int v83), (1, .int v10), (0, .ref o0)]) d_TrustDeskModel_readClause_110 rfl (by decide) rfl ?_
          refine mv_iload_n d_TrustDeskModel_readClause_111 rfl rfl ?_
          have := mz_hi v10
          refine mv_if_eqZ (tgt := 123) (a := v10.toInt) d_TrustDeskModel_readClause_112 (by decide) rfl (fun b144 => absurd b144 (by omega)) (fun b144 => ?_)
          refine mv_aload_n d_TrustDeskModel_readClause_115 rfl rfl ?_
          refine mv_iload_n d_TrustDeskModel_readClause_116 rfl rfl ?_
          obtain ⟨_, b151, -⟩ := I115.1 _ _ t126
          refine mv_callV (kc' := 0) (ks' := 0) (As := [.int v117]) (st9 := [.int v117, .ref o0]) d_TrustDeskModel_readClause_117 lV_TrustDeskModel_345 b151 rfl (tc_TrustDeskModel_readEnd_x (d := d) (x9 := x9) (o0 := o0) (x1 := v117) t126 R118 E133.1 (E133.s yS (by decide)) (by have := R118.1 15 _ _ rfl; have := R118.1 16 _ _ rfl; have := R118.1 19 _ _ rfl; omega) (by have := R118.1 15 _ _ rfl; have := R118.1 16 _ _ rfl; have := R118.1 19 _ _ rfl; omega) (by have := R118.1 15 _ _ rfl; have := R118.1 16 _ _ rfl; have := R118.1 19 _ _ rfl; omega) K136 (by have := R118.1 15 _ _ rfl; have := R118.1 16 _ _ rfl; have := R118.1 19 _ _ rfl; omega) f125 K137 I115.start) rfl (Nat.le_of_ble_eq_true rfl) (Nat.le_of_ble_eq_true rfl) (Nat.le_of_ble_eq_true rfl) (hst := rfl) (fun b145r M146 n147 b145 => ?_)
          obtain ⟨T148, J149, rfl, R152, f153, f154, f155, f156, f157, f158, f159, f160⟩ := b145
          have I150 := I115.call J149 (tm_sub (by decide)) (Or.inl rfl)
          have t161 := J149.up t126
          have := f153.2.1
          have f162 := Im.i f153.w.2
          have f163 := Im.i f153.w2
          replace f156 := Im.i f156
          replace f158 := Im.i f158
          replace f160 := Im.i f160
          have z164 := (ra_call I115 J149 (I115.up h_o0) (k := 6) rfl rfl rfl 44)
          have z165 := (ra_call I115 J149 (I115.up h_o0) (k := 7) rfl rfl rfl ((880 + ra M0 o0 6 44).toNat))
          have z166 := (ra_call I115 J149 (I115.up h_o0) (k := 10) rfl rfl rfl ((880 + ra M0 o0 6 44).toNat))
          have E167 : rE M0 M146 o0 2 1 := E133.trans f153 (by decide) (yR.2 5 _ _ rfl 44).1 (by decide) (by decide)
          have h168 : v117.toNatClampNeg = (880 + ra M0 o0 6 44).toNat := by have := mz_nat9 (i := v117) (by have := R118.1 15 _ _ rfl; have := R118.1 16 _ _ rfl; have := R118.1 19 _ _ rfl; omega); have := R118.1 15 _ _ rfl; have := R118.1 16 _ _ rfl; have := R118.1 19 _ _ rfl; omega
          rw [h168] at f154 f156 f158
          have K169 : rK M0 M146 o0 ((880 + ra M0 o0 6 44).toNat) := K135.trans f154
          have K170 : nN M146 o0 := f155
          have K171 : rv M146 o0 19 = 0 → rD M111 M146 o0 (880 + ra M0 o0 6 44).toNat := f158
          have K172 : rv M146 o0 19 = 0 → pN M146 o0 pn (pN9 ++ [(p_st pb pn s138.2.2, p_sp pb pn s138.2.2)]) := f160.o
          obtain ⟨s173, e174⟩ : ∃ s9 : p_S, p_en1 pb pn pa pN9 s138 = s9 := ⟨_, rfl⟩
          rw [e174] at f159
          have := f159.w
          have q175 := J149.keep t126 (by decide) q140
          have t176 := J149.up t141
          refine mv_goto (tgt := 165) d_TrustDeskModel_readClause_120 (by decide) ?_
          refine mv_aload_n d_TrustDeskModel_readClause_165 rfl rfl ?_
          refine mv_bipush (v := 59) d_TrustDeskModel_readClause_166 (by decide) ?_
          obtain ⟨_, b183, -⟩ := I150.1 _ _ t161
          have : (59 : Int32).toInt = 59 := by decide
          refine mv_callV (kc' := 0) (ks' := 0) (As := [.int 59]) (st9 := [.int 59, .ref o0]) d_TrustDeskModel_readClause_168 lV_TrustDeskModel_291 b183 rfl (tc_TrustDeskModel_wantSign_x (d := (d + 23)) (x9 := x9) (o0 := o0) (x1 := 59) t161 R152 E167.1 (E167.s yS (by decide)) (by decide) f159 I150.start) rfl (Nat.le_of_ble_eq_true rfl) (Nat.le_of_ble_eq_true rfl) (Nat.le_of_ble_eq_true rfl) (hst := rfl) (fun b177r M178 n179 b177 => ?_)
          obtain ⟨T180, J181, rfl, R184, f185, f186⟩ := b177
          have I182 := I150.call J181 (tm_sub (by decide)) (Or.inl rfl)
          have t187 := J181.up t161
          have := f185.2.1
          have f188 := Im.i f185.w.2
          have f189 := Im.i f185.w2
          have z190 := (rv_c I150 J181 (I150.up h_o0) (k := 22) rfl)
          have z191 := (rv_c I150 J181 (I150.up h_o0) (k := 24) rfl)
          have z192 := (ra_call I150 J181 (I150.up h_o0) (k := 5) rfl rfl rfl 44)
          have z193 := (ra_call I150 J181 (I150.up h_o0) (k := 6) rfl rfl rfl 44).trans z164
          have z194 := (ra_call I150 J181 (I150.up h_o0) (k := 7) rfl rfl rfl ((880 + ra M0 o0 6 44).toNat)).trans z165
          have z195 := (ra_call I150 J181 (I150.up h_o0) (k := 10) rfl rfl rfl ((880 + ra M0 o0 6 44).toNat)).trans z166
          have z196 := (ra_call I150 J181 (I150.up h_o0) (k := 8) rfl rfl rfl ((880 + ra M0 o0 6 44).toNat))
          have E197 : rE M0 M178 o0 2 2 := E167.trans f185 (by decide) (yR.2 5 _ _ rfl 44).1 (by decide) (by decide)
          have K198 : rK M0 M178 o0 ((880 + ra M0 o0 6 44).toNat) := K169.same (sA_c I150 J181 (I150.up h_o0) (by decide +kernel))
          have K199 : nN M178 o0 := K170.same (sA_c I150 J181 (I150.up h_o0) (by decide +kernel)) (sF_c I150 J181 (I150.up h_o0) (by decide +kernel))
          have K200 : rv M178 o0 19 = 0 → rD M111 M178 o0 (880 + ra M0 o0 6 44).toNat := (fun w9 => (K171 (f185.w.2 w9)).same (sA_c I150 J181 (I150.up h_o0) (by decide)))
          have K201 : rv M178 o0 19 = 0 → pN M178 o0 pn (pN9 ++ [(p_st pb pn s138.2.2, p_sp pb pn s138.2.2)]) := (fun w9 => (K172 (f185.w.2 w9)).same (sA_c I150 J181 (I150.up h_o0) (by decide)) (sF_c I150 J181 (I150.up h_o0) (by decide)))
          rw [show (59 : Int32).toInt = 59 from by decide] at f186
          obtain ⟨s202, e203⟩ : ∃ s9 : p_S, p_sg pb pn 59 s173 = s9 := ⟨_, rfl⟩
          rw [e203] at f186
          have := f186.w
          clear z164 z165 z166
          have q204 := J181.keep t161 (by decide) q175
          have t205 := J181.up t176
          refine mv_aload_n d_TrustDeskModel_readClause_171 rfl rfl ?_
          obtain ⟨a207, q206, t_a207⟩ := tm_atR I182 t187 (k := 12) rfl
          refine tr_getK q206 d_TrustDeskModel_readClause_172 f_TrustDeskModel_41_13 ?_
          refine mv_iload_n d_TrustDeskModel_readClause_175 rfl rfl ?_
          refine mv_aload_n d_TrustDeskModel_readClause_176 rfl rfl ?_
          obtain ⟨a209, q208, t_a209⟩ := tm_atR I182 t187 (k := 5) rfl
          refine tr_getK q208 d_TrustDeskModel_readClause_177 f_TrustDeskModel_20_13 ?_
          refine mv_bipush (v := 44) d_TrustDeskModel_readClause_180 (by decide) ?_
          refine tr_ialdR (o := o0) (k := 5) I182 q208 t_a209 (by decide) d_TrustDeskModel_readClause_182 (by unfold vp_in; decide) (fun v210 e211 => ?_)
          have := R184.a (k := 5) rfl (44 : Int32).toNatClampNeg
          have : v210.toInt = ra M178 o0 5 44 := e211
          have : v210.toInt = _ := Eq.trans e211 z192
          refine tr_iastR (k := 12) I182 R184 (I182.up h_o0) q206 t_a207 (by decide) (by decide) (fun lo hi h => by cases h; have := R184.1 15 _ _ rfl; have := R184.1 16 _ _ rfl; have := R184.1 19 _ _ rfl; exact ⟨by show (0 : Int) ≤ v210.toInt; omega, by show v210.toInt ≤ (400 : Int); omega⟩) (Or.inl (by decide)) d_TrustDeskModel_readClause_183 (vp_in_iff.mpr (by have := R184.1 15 _ _ rfl; have := R184.1 16 _ _ rfl; have := R184.1 19 _ _ rfl; omega)) (fun M212 I213 K214 R215 E216 A217 V218 => ?_)
          have z219 := (V218 15)
          have z220 := (V218 16)
          have z221 := (V218 17)
          have z222 := (V218 19)
          have z223 := (V218 22).trans z190
          have z224 := (V218 24).trans z191
          have z225 := (A217 5 (by decide) rfl 44).trans z192
          have z226 := (A217 6 (by decide) rfl 44).trans z193
          have z227 := (A217 7 (by decide) rfl ((880 + ra M0 o0 6 44).toNat)).trans z194
          have z228 := (A217 10 (by decide) rfl ((880 + ra M0 o0 6 44).toNat)).trans z195
          have z229 := (A217 8 (by decide) rfl ((880 + ra M0 o0 6 44).toNat)).trans z196
          have E230 : rE M0 M212 o0 2 2 := E197.same (fun k _ _ => V218 k) (fun k h1 h2 => A217 k (by omega) (by rcases (show k = 4 ∨ k = 5 by omega) with rfl | rfl <;> rfl))
          have h231 : (880 + ra M0 o0 6 44).toNat = v117.toNatClampNeg := by have := mz_nat9 (i := v117) (by have := R184.1 15 _ _ rfl; have := R184.1 16 _ _ rfl; have := R184.1 19 _ _ rfl; omega); have := R184.1 15 _ _ rfl; have := R184.1 16 _ _ rfl; have := R184.1 19 _ _ rfl; omega
          have z232 : ra M212 o0 12 ((880 + ra M0 o0 6 44).toNat) = v210.toInt := (E216 _).trans (if_pos h231)
          have K233 : rK M0 M212 o0 ((880 + ra M0 o0 6 44).toNat) := K198.st A217 E216 (by have := mz_nat9 (i := v117) (by have := R184.1 15 _ _ rfl; have := R184.1 16 _ _ rfl; have := R184.1 19 _ _ rfl; omega); have := R184.1 15 _ _ rfl; have := R184.1 16 _ _ rfl; have := R184.1 19 _ _ rfl; omega)
          have K234 : nN M212 o0 := K199.same (sA_a A217 (by decide +kernel)) (sF_a V218)
          have K235 : rv M212 o0 19 = 0 → rD M111 M212 o0 (880 + ra M0 o0 6 44).toNat := (fun w9 => (K200 (by have e9 := ((sF_a V218) : sF [19] _ _ _) 19 rfl; rw [← e9]; exact w9)).same (sA_a A217 (by decide +kernel)))
          have K236 : rv M212 o0 19 = 0 → pN M212 o0 pn (pN9 ++ [(p_st pb pn s138.2.2, p_sp pb pn s138.2.2)]) := (fun w9 => (K201 (by have e9 := ((sF_a V218) : sF [19, 24] _ _ _) 19 rfl; rw [← e9]; exact w9)).same (sA_a A217 (by decide +kernel)) (fun k hk => ((sF_a V218) : sF [19, 24] _ _ _) k (by simp at hk; subst hk; rfl)))
          have Z9237 : pO M212 o0 pb pn pa s202 := f186.same (fun k _ _ => V218 k) (V218 23) (A217 13 (by decide) rfl)
          clear z190 z191 z192 z193 z194 z195 z196
          exact mv_vret d_TrustDeskModel_readClause_184 rfl ⟨_, I213, rfl, R215, (rW.of E230.1 (E230.s yS (by decide)) (fun w9 => by have u91 : rv M178 o0 19 = 0 := (by omega); have := f188.o u91; have := f189.o u91; have u92 : rv M146 o0 19 = 0 := (by omega); have := f162.o u92; have := f163.o u92; have := f156.o u92; have := f158.o u92; have := f160.o u92; have u93 : rv M111 o0 19 = 0 := (by omega); have := f127.o u93; have := f128.o u93; exact rG.step yG yR E230 w9 K233 (by have := yR.2 6 _ _ rfl 44; omega) (by have := R215.1 15 _ _ rfl; have := R215.1 16 _ _ rfl; have := R215.1 19 _ _ rfl; omega) (by have := R215.1 15 _ _ rfl; have := R215.1 16 _ _ rfl; have := R215.1 19 _ _ rfl; omega) (fun _ => rowN.ofD (K235 w9) (by have := R215.1 15 _ _ rfl; have := R215.1 16 _ _ rfl; have := R215.1 19 _ _ rfl; omega) (by have := R215.1 15 _ _ rfl; have := R215.1 16 _ _ rfl; have := R215.1 19 _ _ rfl; omega)) (fun h9 => (by have := R215.1 15 _ _ rfl; have := R215.1 16 _ _ rfl; have := R215.1 19 _ _ rfl; omega)) (by have := R215.1 15 _ _ rfl; have := R215.1 16 _ _ rfl; have := R215.1 19 _ _ rfl; omega) K234)), (rO.of E230 K233 (by have := yR.2 6 _ _ rfl 44; omega)), ⟨E230.2.1, fun w9 => by skip; have := E230.w2 w9; omega⟩, (fun w9 => by have u91 : rv M178 o0 19 = 0 := (by omega); have := f188.o u91; have := f189.o u91; have u92 : rv M146 o0 19 = 0 := (by omega); have := f162.o u92; have := f163.o u92; have := f156.o u92; have := f158.o u92; have := f160.o u92; have u93 : rv M111 o0 19 = 0 := (by omega); have := f127.o u93; have := f128.o u93; omega), (fun _ w9 => by have u91 : rv M178 o0 19 = 0 := (by omega); have := f188.o u91; have := f189.o u91; have u92 : rv M146 o0 19 = 0 := (by omega); have := f162.o u92; have := f163.o u92; have := f156.o u92; have := f158.o u92; have := f160.o u92; have u93 : rv M111 o0 19 = 0 := (by omega); have := f127.o u93; have := f128.o u93; exact ⟨(by have := R215.1 15 _ _ rfl; have := R215.1 16 _ _ rfl; have := R215.1 19 _ _ rfl; omega), (by have := R215.1 15 _ _ rfl; have := R215.1 16 _ _ rfl; have := R215.1 19 _ _ rfl; omega)⟩), (by have := R215.1 15 _ _ rfl; have := R215.1 16 _ _ rfl; have := R215.1 19 _ _ rfl; omega), (by first | (have := pW1 (Im.o d31) (by omega); have := Z930.wk; have := Im.o d104; rw [show (p_cl pb pn pa (pc9, pN9, ps)).2 = s202 from (by unfold p_cl; unfold p_tru; (try simp only [e139, e174, e203]); ((repeat' (first | (with_reducible rfl) | split)) <;> (first | ((try simp only [e139, e174, e203]); done) | ((try simp only [e139, e174, e203]); first | exact p_sg_Z _ (by omega) | omega) | (exfalso; omega))))]; exact Z9237) | (exfalso; have := R215.1 15 _ _ rfl; have := R215.1 16 _ _ rfl; have := R215.1 19 _ _ rfl; omega)), (fun w9 => by have u91 : rv M178 o0 19 = 0 := (by omega); have := f188.o u91; have := f189.o u91; have u92 : rv M146 o0 19 = 0 := (by omega); have := f162.o u92; have := f163.o u92; have := f156.o u92; have := f158.o u92; have := f160.o u92; have u93 : rv M111 o0 19 = 0 := (by omega); have := f127.o u93; have := f128.o u93; omega), (fun w9 => by have u91 : rv M178 o0 19 = 0 := (by omega); have := f188.o u91; have := f189.o u91; have u92 : rv M146 o0 19 = 0 := (by omega); have := f162.o u92; have := f163.o u92; have := f156.o u92; have := f158.o u92; have := f160.o u92; have u93 : rv M111 o0 19 = 0 := (by omega); have := f127.o u93; have := f128.o u93; have := pW1 (Im.o d31) (by omega); have := Z930.wk; have := Im.o d104; have e9 : (p_cl pb pn pa (pc9, pN9, ps)).1 = pN9 ++ [(p_st pb pn s138.2.2, p_sp pb pn s138.2.2)] := (by rw [← e139]; unfold p_cl; (repeat' split) <;> first | rfl | (exfalso; omega)); rw [e9]; exact (K236 w9))⟩
      · refine mv_aload_n d_TrustDeskModel_readClause_65 rfl rfl ?_
        refine mv_iconst (v := 4) d_TrustDeskModel_readClause_66 (by decide) ?_
        obtain ⟨_, b244, -⟩ := I8.1 _ _ t17
        have : (4 : Int32).toInt = 4 := by decide
        refine mv_callV (kc' := 0) (ks' := 0) (As := [.int 4]) (st9 := [.int 4, .ref o0]) d_TrustDeskModel_readClause_67 lV_TrustDeskModel_240 b244 rfl (tc_TrustDeskModel_fails_x (d := (d + 25)) (x9 := x9) (o0 := o0) (x1 := 4) t17 R13 (by decide) Z930 I8.start) rfl (Nat.le_of_ble_eq_true rfl) (Nat.le_of_ble_eq_true rfl) (Nat.le_of_ble_eq_true rfl) (hst := rfl) (fun b238r M239 n240 b238 => ?_)
        obtain ⟨T241, J242, rfl, R245, f246, f247⟩ := b238
        have I243 := I8.call J242 (tm_sub (by decide)) (Or.inl rfl)
        have t248 := J242.up t17
        have z249 := (rv_c I8 J242 (I8.up h_o0) (k := 15) rfl).trans z18
        have z250 := (rv_c I8 J242 (I8.up h_o0) (k := 16) rfl).trans z19
        have z251 := (rv_c I8 J242 (I8.up h_o0) (k := 17) rfl).trans z20
        have z252 := (rv_c I8 J242 (I8.up h_o0) (k := 22) rfl).trans z22
        have z253 := (rv_c I8 J242 (I8.up h_o0) (k := 24) rfl).trans z23
        have z254 := (ra_call I8 J242 (I8.up h_o0) (k := 5) rfl rfl rfl 44).trans z24
        have z255 := (ra_call I8 J242 (I8.up h_o0) (k := 6) rfl rfl rfl 44).trans z25
        have E256 : rE M0 M239 o0 0 0 := E26.fails (rE_hv I8 J242 (I8.up h_o0) 15 18 (by decide)) (rE_ha I8 J242 (I8.up h_o0) (by decide)) f246 0 0
        have K257 : rK M0 M239 o0 ((880 + ra M0 o0 6 44).toNat) := K27.same (sA_c I8 J242 (I8.up h_o0) (by decide +kernel))
        have K258 : nN M239 o0 := K28.same (sA_c I8 J242 (I8.up h_o0) (by decide +kernel)) (sF_c I8 J242 (I8.up h_o0) (by decide +kernel))
        have K259 : pN M239 o0 pn pN9 := K29.same (sA_c I8 J242 (I8.up h_o0) (by decide +kernel)) (sF_c I8 J242 (I8.up h_o0) (by decide +kernel))
        rw [show (4 : Int32).toInt = 4 from by decide] at f247
        obtain ⟨s260, e261⟩ : ∃ s9 : p_S, p_fl pb pn 4 ps = s9 := ⟨_, rfl⟩
        rw [e261] at f247
        have := f247.w
        clear z18 z19 z20 z22 z23 z24 z25
        have q262 := J242.keep t17 (by decide) q33
        have t263 := J242.up t_a34
        have q264 := J242.keep t17 (by decide) q69
        refine mv_aload_n d_TrustDeskModel_readClause_70 rfl rfl ?_
        obtain ⟨_, b265, -⟩ := I243.1 _ _ t248
        refine mv_callV (kc1 := 0) (ks1 := 0) (kc' := 0) (ks' := 0) (As := []) (st9 := [.ref o0]) d_TrustDeskModel_readClause_71 lV_TrustDeskModel_230 b265 rfl (mj_enter (by decide) (Nat.le_of_ble_eq_true rfl) ?_) rfl (Nat.le_of_ble_eq_true rfl) (Nat.le_of_ble_eq_true rfl) (Nat.le_of_ble_eq_true rfl) (hst := rfl) (fun _ _ _ h => h)
        refine mv_aload_n d_TrustDeskModel_isWell_0 rfl rfl ?_
        obtain ⟨v267, q266⟩ := tm_atI I243 t248 (k := 19) rfl
        refine tr_getK q266 d_TrustDeskModel_isWell_1 f_TrustDeskModel_224_13 ?_
        have := R245.f (k := 19) q266 rfl
        have := tm_rv q266
        refine mv_if_neZ (tgt := 11) (a := v267.toInt) d_TrustDeskModel_isWell_4 (by decide) rfl (fun b268 => ?_) (fun b268 => ?_)
        · refine mv_iconst (v := 0) d_TrustDeskModel_isWell_11 (by decide) ?_
          refine mv_iret d_TrustDeskModel_isWell_12 rfl (by decide) ?_
          refine mv_if_ne_f (tgt := 78) d_TrustDeskModel_readClause_74 (by decide) (by decide) ?_
          exact mv_vret d_TrustDeskModel_readClause_77 rfl ⟨_, I243, rfl, R245, (rW.of E256.1 (fun h9 => by exfalso; skip; have := R245.1 15 _ _ rfl; have := R245.1 16 _ _ rfl; have := R245.1 19 _ _ rfl; omega) (fun h9 => by exfalso; skip; have := R245.1 15 _ _ rfl; have := R245.1 16 _ _ rfl; have := R245.1 19 _ _ rfl; omega)), (rO.of E256 K257 (by have := yR.2 6 _ _ rfl 44; omega)), ⟨E256.2.1, fun w9 => by skip; have := E256.w2 w9; omega⟩, (fun w9 => by skip; omega), (fun _ h9 => by exfalso; skip; have := R245.1 15 _ _ rfl; have := R245.1 16 _ _ rfl; have := R245.1 19 _ _ rfl; omega), (by have := R245.1 15 _ _ rfl; have := R245.1 16 _ _ rfl; have := R245.1 19 _ _ rfl; omega), (by first | (have := pW1 (Im.o d31) (by omega); have := Z930.wk; rw [show (p_cl pb pn pa (pc9, pN9, ps)).2 = s260 from (by unfold p_cl; unfold p_tru; (try simp only [e261]); ((repeat' (first | (with_reducible rfl) | split)) <;> (first | ((try simp only [e261]); done) | ((try simp only [e261]); first | exact p_sg_Z _ (by omega) | omega) | (exfalso; omega))))]; exact f247) | (exfalso; have := R245.1 15 _ _ rfl; have := R245.1 16 _ _ rfl; have := R245.1 19 _ _ rfl; omega)), (fun w9 => by skip; omega), (fun h9 => by exfalso; skip; have := R245.1 15 _ _ rfl; have := R245.1 16 _ _ rfl; have := R245.1 19 _ _ rfl; omega)⟩
        · exfalso
          have := R245.1 15 _ _ rfl; have := R245.1 16 _ _ rfl; have := R245.1 19 _ _ rfl; omega
  · refine mv_aload_n d_TrustDeskModel_readClause_12 rfl rfl ?_
    refine mv_ldcSw (id := 43) (tx := "mark") d_TrustDeskModel_readClause_13 (List.mem_of_getElem? (i := 33) rfl) ?_
    obtain ⟨_, b275, -⟩ := I8.1 _ _ t17
    refine mv_callV (kc' := 0) (ks' := 0) (As := [.ref 43]) (st9 := [.ref 43, .ref o0]) d_TrustDeskModel_readClause_16 lV_TrustDeskModel_244 b275 rfl (tc_TrustDeskModel_isWord_s1_43_x (d := (d + 21)) (x9 := x9) (o0 := o0) t17 R13 I8.start) rfl (Nat.le_of_ble_eq_true rfl) (Nat.le_of_ble_eq_true rfl) (Nat.le_of_ble_eq_true rfl) (hst := rfl) (fun b269r M270 n271 b269 => ?_)
    obtain ⟨T272, J273, v276, rfl, b277, b278, R279, f280, f281, f282⟩ := b269
    have I274 := I8.call J273 (tm_sub (by decide)) (Or.inl rfl)
    have t283 := J273.up t17
    replace f280 := Im.i f280
    replace f281 := Im.i f281
    replace f282 := Im.i f282
    have z284 := (rv_c I8 J273 (I8.up h_o0) (k := 15) rfl).trans z18
    have z285 := (rv_c I8 J273 (I8.up h_o0) (k := 16) rfl).trans z19
    have z286 := (rv_c I8 J273 (I8.up h_o0) (k := 17) rfl).trans z20
    have z287 := (rv_c I8 J273 (I8.up h_o0) (k := 19) rfl).trans z21
    have z288 := (rv_c I8 J273 (I8.up h_o0) (k := 22) rfl).trans z22
    have z289 := (rv_c I8 J273 (I8.up h_o0) (k := 24) rfl).trans z23
    have z290 := (ra_call I8 J273 (I8.up h_o0) (k := 5) rfl rfl rfl 44).trans z24
    have z291 := (ra_call I8 J273 (I8.up h_o0) (k := 6) rfl rfl rfl 44).trans z25
    have E292 : rE M0 M270 o0 0 0 := E26.same (rE_hv I8 J273 (I8.up h_o0) 15 19 (by decide)) (rE_ha I8 J273 (I8.up h_o0) (by decide))
    have K293 : rK M0 M270 o0 ((880 + ra M0 o0 6 44).toNat) := K27.same (sA_c I8 J273 (I8.up h_o0) (by decide +kernel))
    have K294 : nN M270 o0 := K28.same (sA_c I8 J273 (I8.up h_o0) (by decide +kernel)) (sF_c I8 J273 (I8.up h_o0) (by decide +kernel))
    have K295 : pN M270 o0 pn pN9 := K29.same (sA_c I8 J273 (I8.up h_o0) (by decide +kernel)) (sF_c I8 J273 (I8.up h_o0) (by decide +kernel))
    have Z9296 : pO M270 o0 pb pn pa ps := Z930.same (rE_hv I8 J273 (I8.up h_o0) 14 20 (by decide)) (rv_c I8 J273 (I8.up h_o0) (k := 23) rfl) (ra_call I8 J273 (I8.up h_o0) (k := 13) rfl rfl rfl)
    have d297 := Im.i (pO.w_24 Z930 (by have := R13.1 15 _ _ rfl; have := R13.1 16 _ _ rfl; have := R13.1 19 _ _ rfl; omega) (Im.o f281) (Im.o f282) (by have := R13.1 15 _ _ rfl; have := R13.1 16 _ _ rfl; have := R13.1 19 _ _ rfl; omega))
    clear z22 z23 z24 z25
    have := mz_hi v276
    refine mv_if_neZ (tgt := 40) (a := v276.toInt) d_TrustDeskModel_readClause_19 (by decide) rfl (fun b298 => ?_) (fun b298 => ?_)
    · refine mv_aload_n d_TrustDeskModel_readClause_40 rfl rfl ?_
      obtain ⟨a300, q299, t_a300⟩ := tm_atR I274 t283 (k := 6) rfl
      refine tr_getK q299 d_TrustDeskModel_readClause_41 f_TrustDeskModel_23_13 ?_
      refine mv_bipush (v := 44) d_TrustDeskModel_readClause_44 (by decide) ?_
      refine tr_ialdR (o := o0) (k := 6) I274 q299 t_a300 (by decide) d_TrustDeskModel_readClause_46 (by unfold vp_in; decide) (fun v301 e302 => ?_)
      have := R279.a (k := 6) rfl (44 : Int32).toNatClampNeg
      have : v301.toInt = ra M270 o0 6 44 := e302
      have : v301.toInt = _ := Eq.trans e302 z291
      refine mv_bipush (v := 12) d_TrustDeskModel_readClause_47 (by decide) ?_
      have := mz_hi v301
      refine mv_icmp_eqZ (tgt := 65) (a := v301.toInt) (b := 12) d_TrustDeskModel_readClause_49 (by decide) rfl (by decide) (fun b303 => ?_) (fun b303 => ?_)
      · refine mv_aload_n d_TrustDeskModel_readClause_65 rfl rfl ?_
        refine mv_iconst (v := 4) d_TrustDeskModel_readClause_66 (by decide) ?_
        obtain ⟨_, b310, -⟩ := I274.1 _ _ t283
        have : (4 : Int32).toInt = 4 := by decide
        refine mv_callV (kc' := 0) (ks' := 0) (As := [.int 4]) (st9 := [.int 4, .ref o0]) d_TrustDeskModel_readClause_67 lV_TrustDeskModel_240 b310 rfl (tc_TrustDeskModel_fails_x (d := (d + 25)) (x9 := x9) (o0 := o0) (x1 := 4) t283 R279 (by decide) Z9296 I274.start) rfl (Nat.le_of_ble_eq_true rfl) (Nat.le_of_ble_eq_true rfl) (Nat.le_of_ble_eq_true rfl) (hst := rfl) (fun b304r M305 n306 b304 => ?_)
        obtain ⟨T307, J308, rfl, R311, f312, f313⟩ := b304
        have I309 := I274.call J308 (tm_sub (by decide)) (Or.inl rfl)
        have t314 := J308.up t283
        have z315 := (rv_c I274 J308 (I274.up h_o0) (k := 15) rfl).trans z284
        have z316 := (rv_c I274 J308 (I274.up h_o0) (k := 16) rfl).trans z285
        have z317 := (rv_c I274 J308 (I274.up h_o0) (k := 17) rfl).trans z286
        have z318 := (rv_c I274 J308 (I274.up h_o0) (k := 22) rfl).trans z288
        have z319 := (rv_c I274 J308 (I274.up h_o0) (k := 24) rfl).trans z289
        have z320 := (ra_call I274 J308 (I274.up h_o0) (k := 5) rfl rfl rfl 44).trans z290
        have z321 := (ra_call I274 J308 (I274.up h_o0) (k := 6) rfl rfl rfl 44).trans z291
        have E322 : rE M0 M305 o0 0 0 := E292.fails (rE_hv I274 J308 (I274.up h_o0) 15 18 (by decide)) (rE_ha I274 J308 (I274.up h_o0) (by decide)) f312 0 0
        have K323 : rK M0 M305 o0 ((880 + ra M0 o0 6 44).toNat) := K293.same (sA_c I274 J308 (I274.up h_o0) (by decide +kernel))
        have K324 : nN M305 o0 := K294.same (sA_c I274 J308 (I274.up h_o0) (by decide +kernel)) (sF_c I274 J308 (I274.up h_o0) (by decide +kernel))
        have K325 : pN M305 o0 pn pN9 := K295.same (sA_c I274 J308 (I274.up h_o0) (by decide +kernel)) (sF_c I274 J308 (I274.up h_o0) (by decide +kernel))
        rw [show (4 : Int32).toInt = 4 from by decide] at f313
        obtain ⟨s326, e327⟩ : ∃ s9 : p_S, p_fl pb pn 4 ps = s9 := ⟨_, rfl⟩
        rw [e327] at f313
        have := f313.w
        clear z284 z285 z286 z288 z289 z290 z291
        have q328 := J308.keep t283 (by decide) q299
        have t329 := J308.up t_a300
        refine mv_aload_n d_TrustDeskModel_readClause_70 rfl rfl ?_
        obtain ⟨_, b330, -⟩ := I309.1 _ _ t314
        refine mv_callV (kc1 := 0) (ks1 := 0) (kc' := 0) (ks' := 0) (As := []) (st9 := [.ref o0]) d_TrustDeskModel_readClause_71 lV_TrustDeskModel_230 b330 rfl (mj_enter (by decide) (Nat.le_of_ble_eq_true rfl) ?_) rfl (Nat.le_of_ble_eq_true rfl) (Nat.le_of_ble_eq_true rfl) (Nat.le_of_ble_eq_true rfl) (hst := rfl) (fun _ _ _ h => h)
        refine mv_aload_n d_TrustDeskModel_isWell_0 rfl rfl ?_
        obtain ⟨v332, q331⟩ := tm_atI I309 t314 (k := 19) rfl
        refine tr_getK q331 d_TrustDeskModel_isWell_1 f_TrustDeskModel_224_13 ?_
        have := R311.f (k := 19) q331 rfl
        have := tm_rv q331
        refine mv_if_neZ (tgt := 11) (a := v332.toInt) d_TrustDeskModel_isWell_4 (by decide) rfl (fun b333 => ?_) (fun b333 => ?_)
        · refine mv_iconst (v := 0) d_TrustDeskModel_isWell_11 (by decide) ?_
          refine mv_iret d_TrustDeskModel_isWell_12 rfl (by decide) ?_
          refine mv_if_ne_f (tgt := 78) d_TrustDeskModel_readClause_74 (by decide) (by decide) ?_
          exact mv_vret d_TrustDeskModel_readClause_77 rfl ⟨_, I309, rfl, R311, (rW.of E322.1 (fun h9 => by exfalso; skip; have := R311.1 15 _ _ rfl; have := R311.1 16 _ _ rfl; have := R311.1 19 _ _ rfl; omega) (fun h9 => by exfalso; skip; have := R311.1 15 _ _ rfl; have := R311.1 16 _ _ rfl; have := R311.1 19 _ _ rfl; omega)), (rO.of E322 K323 (by have := yR.2 6 _ _ rfl 44; omega)), ⟨E322.2.1, fun w9 => by skip; have := E322.w2 w9; omega⟩, (fun w9 => by skip; omega), (fun _ h9 => by exfalso; skip; have := R311.1 15 _ _ rfl; have := R311.1 16 _ _ rfl; have := R311.1 19 _ _ rfl; omega), (by have := R311.1 15 _ _ rfl; have := R311.1 16 _ _ rfl; have := R311.1 19 _ _ rfl; omega), (by first | (have := pW0 (Im.o d31) (by omega); have := Z930.wk; have := pW1 (Im.o d297) (by omega); rw [show (p_cl pb pn pa (pc9, pN9, ps)).2 = s326 from (by unfold p_cl; unfold p_tru; (try simp only [e327]); ((repeat' (first | (with_reducible rfl) | split)) <;> (first | ((try simp only [e327]); done) | ((try simp only [e327]); first | exact p_sg_Z _ (by omega) | omega) | (exfalso; omega))))]; exact f313) | (exfalso; have := R311.1 15 _ _ rfl; have := R311.1 16 _ _ rfl; have := R311.1 19 _ _ rfl; omega)), (fun w9 => by skip; omega), (fun h9 => by exfalso; skip; have := R311.1 15 _ _ rfl; have := R311.1 16 _ _ rfl; have := R311.1 19 _ _ rfl; omega)⟩
        · exfalso
          have := R311.1 15 _ _ rfl; have := R311.1 16 _ _ rfl; have := R311.1 19 _ _ rfl; omega
      · refine mv_iload_n d_TrustDeskModel_readClause_52 rfl rfl ?_
        have := mz_hi v10
        refine mv_if_eqZ (tgt := 70) (a := v10.toInt) d_TrustDeskModel_readClause_53 (by decide) rfl (fun b334 => ?_) (fun b334 => absurd b334 (by omega))
        refine mv_aload_n d_TrustDeskModel_readClause_70 rfl rfl ?_
        obtain ⟨_, b335, -⟩ := I274.1 _ _ t283
        refine mv_callV (kc1 := 0) (ks1 := 0) (kc' := 0) (ks' := 0) (As := []) (st9 := [.ref o0]) d_TrustDeskModel_readClause_71 lV_TrustDeskModel_230 b335 rfl (mj_enter (by decide) (Nat.le_of_ble_eq_true rfl) ?_) rfl (Nat.le_of_ble_eq_true rfl) (Nat.le_of_ble_eq_true rfl) (Nat.le_of_ble_eq_true rfl) (hst := rfl) (fun _ _ _ h => h)
        refine mv_aload_n d_TrustDeskModel_isWell_0 rfl rfl ?_
        obtain ⟨v337, q336⟩ := tm_atI I274 t283 (k := 19) rfl
        refine tr_getK q336 d_TrustDeskModel_isWell_1 f_TrustDeskModel_224_13 ?_
        have := R279.f (k := 19) q336 rfl
        have := (tm_rv q336).symm.trans z287
        have := tm_rv q336
        have := mz_hi v337
        refine mv_if_neZ (tgt := 11) (a := v337.toInt) d_TrustDeskModel_isWell_4 (by decide) rfl (fun b338 => ?_) (fun b338 => ?_)
        · refine mv_iconst (v := 0) d_TrustDeskModel_isWell_11 (by decide) ?_
          refine mv_iret d_TrustDeskModel_isWell_12 rfl (by decide) ?_
          refine mv_if_ne_f (tgt := 78) d_TrustDeskModel_readClause_74 (by decide) (by decide) ?_
          exact mv_vret d_TrustDeskModel_readClause_77 rfl ⟨_, I274, rfl, R279, (rW.of E292.1 (E292.s yS (by decide)) (fun w9 => by skip; exact rG.step yG yR E292 w9 K293 (by have := yR.2 6 _ _ rfl 44; omega) (by have := R279.1 15 _ _ rfl; have := R279.1 16 _ _ rfl; have := R279.1 19 _ _ rfl; omega) (by have := R279.1 15 _ _ rfl; have := R279.1 16 _ _ rfl; have := R279.1 19 _ _ rfl; omega) (fun h9 => by exfalso; have := R279.1 15 _ _ rfl; have := R279.1 16 _ _ rfl; have := R279.1 19 _ _ rfl; omega) (fun h9 => (by have := R279.1 15 _ _ rfl; have := R279.1 16 _ _ rfl; have := R279.1 19 _ _ rfl; omega)) (by have := R279.1 15 _ _ rfl; have := R279.1 16 _ _ rfl; have := R279.1 19 _ _ rfl; omega) K294)), (rO.of E292 K293 (by have := yR.2 6 _ _ rfl 44; omega)), ⟨E292.2.1, fun w9 => by skip; have := E292.w2 w9; omega⟩, (fun w9 => by skip; omega), (fun _ h9 => absurd h9 (by have := R279.1 15 _ _ rfl; have := R279.1 16 _ _ rfl; have := R279.1 19 _ _ rfl; omega)), (by have := R279.1 15 _ _ rfl; have := R279.1 16 _ _ rfl; have := R279.1 19 _ _ rfl; omega), (by first | (have := pW0 (Im.o d31) (by omega); have := Z930.wk; have := pW1 (Im.o d297) (by omega); rw [show (p_cl pb pn pa (pc9, pN9, ps)).2 = ps from (by unfold p_cl; unfold p_tru; (try simp only [eq_self]); ((repeat' (first | (with_reducible rfl) | split)) <;> (first | ((try simp only [eq_self]); done) | ((try simp only [eq_self]); first | exact p_sg_Z _ (by omega) | omega) | (exfalso; omega))))]; exact Z9296) | (exfalso; have := R279.1 15 _ _ rfl; have := R279.1 16 _ _ rfl; have := R279.1 19 _ _ rfl; omega)), (fun w9 => by skip; omega), (fun h9 => by exfalso; skip; have := R279.1 15 _ _ rfl; have := R279.1 16 _ _ rfl; have := R279.1 19 _ _ rfl; omega)⟩
        · refine mv_iconst (v := 1) d_TrustDeskModel_isWell_7 (by decide) ?_
          refine mv_goto (tgt := 12) d_TrustDeskModel_isWell_8 (by decide) ?_
          refine mv_iret d_TrustDeskModel_isWell_12 rfl (by decide) ?_
          refine mv_if_ne_t (tgt := 78) d_TrustDeskModel_readClause_74 (by decide) (by decide) ?_
          refine mv_aload_n d_TrustDeskModel_readClause_78 rfl rfl ?_
          refine mv_ldcSw (id := 43) (tx := "mark") d_TrustDeskModel_readClause_79 (List.mem_of_getElem? (i := 33) rfl) ?_
          obtain ⟨_, b345, -⟩ := I274.1 _ _ t283
          refine mv_callV (kc' := 0) (ks' := 0) (As := [.ref 43]) (st9 := [.ref 43, .ref o0]) d_TrustDeskModel_readClause_82 lV_TrustDeskModel_244 b345 rfl (tc_TrustDeskModel_isWord_s1_43_x (d := (d + 21)) (x9 := x9) (o0 := o0) t283 R279 I274.start) rfl (Nat.le_of_ble_eq_true rfl) (Nat.le_of_ble_eq_true rfl) (Nat.le_of_ble_eq_true rfl) (hst := rfl) (fun b339r M340 n341 b339 => ?_)
          obtain ⟨T342, J343, v346, rfl, b347, b348, R349, f350, f351, f352⟩ := b339
          have I344 := I274.call J343 (tm_sub (by decide)) (Or.inl rfl)
          have t353 := J343.up t283
          replace f350 := Im.i f350
          replace f351 := Im.i f351
          replace f352 := Im.i f352
          have z354 := (rv_c I274 J343 (I274.up h_o0) (k := 15) rfl).trans z284
          have z355 := (rv_c I274 J343 (I274.up h_o0) (k := 16) rfl).trans z285
          have z356 := (rv_c I274 J343 (I274.up h_o0) (k := 17) rfl).trans z286
          have z357 := (rv_c I274 J343 (I274.up h_o0) (k := 19) rfl).trans z287
          have z358 := (rv_c I274 J343 (I274.up h_o0) (k := 22) rfl).trans z288
          have z359 := (rv_c I274 J343 (I274.up h_o0) (k := 24) rfl).trans z289
          have z360 := (ra_call I274 J343 (I274.up h_o0) (k := 5) rfl rfl rfl 44).trans z290
          have z361 := (ra_call I274 J343 (I274.up h_o0) (k := 6) rfl rfl rfl 44).trans z291
          have E362 : rE M0 M340 o0 0 0 := E292.same (rE_hv I274 J343 (I274.up h_o0) 15 19 (by decide)) (rE_ha I274 J343 (I274.up h_o0) (by decide))
          have K363 : rK M0 M340 o0 ((880 + ra M0 o0 6 44).toNat) := K293.same (sA_c I274 J343 (I274.up h_o0) (by decide +kernel))
          have K364 : nN M340 o0 := K294.same (sA_c I274 J343 (I274.up h_o0) (by decide +kernel)) (sF_c I274 J343 (I274.up h_o0) (by decide +kernel))
          have K365 : pN M340 o0 pn pN9 := K295.same (sA_c I274 J343 (I274.up h_o0) (by decide +kernel)) (sF_c I274 J343 (I274.up h_o0) (by decide +kernel))
          have Z9366 : pO M340 o0 pb pn pa ps := Z9296.same (rE_hv I274 J343 (I274.up h_o0) 14 20 (by decide)) (rv_c I274 J343 (I274.up h_o0) (k := 23) rfl) (ra_call I274 J343 (I274.up h_o0) (k := 13) rfl rfl rfl)
          have d367 := Im.i (pO.w_24 Z9296 (by have := R279.1 15 _ _ rfl; have := R279.1 16 _ _ rfl; have := R279.1 19 _ _ rfl; omega) (Im.o f351) (Im.o f352) (by have := R279.1 15 _ _ rfl; have := R279.1 16 _ _ rfl; have := R279.1 19 _ _ rfl; omega))
          clear z288 z289 z290 z291
          have q368 := J343.keep t283 (by decide) q299
          have t369 := J343.up t_a300
          have q370 := J343.keep t283 (by decide) q336
          refine mv_istore_n (lv' := [(2, .int v346), (1, .int v10), (0, .ref o0)]) d_TrustDeskModel_readClause_85 rfl (by decide) rfl ?_
          refine mv_aload_n d_TrustDeskModel_readClause_86 rfl rfl ?_
          refine mv_iload_n d_TrustDeskModel_readClause_87 rfl rfl ?_
          have := mz_hi v10
          refine mv_if_eqZ (tgt := 96) (a := v10.toInt) d_TrustDeskModel_readClause_88 (by decide) rfl (fun b371 => ?_) (fun b371 => absurd b371 (by omega))
          refine mv_iload_n d_TrustDeskModel_readClause_96 rfl rfl ?_
          have := mz_hi v346
          refine mv_if_eqZ (tgt := 105) (a := v346.toInt) d_TrustDeskModel_readClause_97 (by decide) rfl (fun b372 => ?_) (fun b372 => ?_)
          · refine mv_bipush (v := 9) d_TrustDeskModel_readClause_105 (by decide) ?_
            obtain ⟨_, b379, -⟩ := I344.1 _ _ t353
            have : (9 : Int32).toInt = 9 := by decide
            refine mv_callV (kc' := 0) (ks' := 0) (As := [.int 9]) (st9 := [.int 9, .ref o0]) d_TrustDeskModel_readClause_107 lV_TrustDeskModel_342 b379 rfl (tc_TrustDeskModel_begin_x (d := (d + 23)) (x9 := x9) (o0 := o0) (x1 := 9) t353 R349 E362.1 (E362.s yS (by decide)) (by have := R349.1 15 _ _ rfl; have := R349.1 16 _ _ rfl; have := R349.1 19 _ _ rfl; omega) (by have := f350.o (by omega); omega) (by have := R349.1 15 _ _ rfl; have := R349.1 16 _ _ rfl; have := R349.1 19 _ _ rfl; omega) Z9366 I344.start) rfl (Nat.le_of_ble_eq_true rfl) (Nat.le_of_ble_eq_true rfl) (Nat.le_of_ble_eq_true rfl) (hst := rfl) (fun b373r M374 n375 b373 => ?_)
            obtain ⟨T376, J377, v380, rfl, R381, f382, f383, f384, f385, f386, f387, f388⟩ := b373
            have I378 := I344.call J377 (tm_sub (by decide)) (Or.inl rfl)
            have t389 := J377.up t353
            have := f382.2.1
            have f390 := Im.i f382.w.2
            have f391 := Im.i f382.w2
            have z392 := (rv_c I344 J377 (I344.up h_o0) (k := 19) rfl).trans z357
            have z393 := (rv_c I344 J377 (I344.up h_o0) (k := 22) rfl).trans z358
            have z394 := (rv_c I344 J377 (I344.up h_o0) (k := 24) rfl).trans z359
            have z395 := (ra_call I344 J377 (I344.up h_o0) (k := 5) rfl rfl rfl 44).trans z360
            have E396 : rE M0 M374 o0 0 1 := E362.trans f382 (by decide) (yR.2 5 _ _ rfl 44).1 (by decide) (by decide)
            have h397 : (880 + ra M340 o0 6 44).toNat = (880 + ra M0 o0 6 44).toNat := by omega
            rw [h397] at f385 f386 f387
            have K398 : rK M0 M374 o0 ((880 + ra M0 o0 6 44).toNat) := K363.trans f387
            have K399 : nN M374 o0 := K364.same (sA_c I344 J377 (I344.up h_o0) (by decide +kernel)) (sF_c I344 J377 (I344.up h_o0) (by decide +kernel))
            have K400 : pN M374 o0 pn pN9 := K365.same (sA_c I344 J377 (I344.up h_o0) (by decide +kernel)) (sF_c I344 J377 (I344.up h_o0) (by decide +kernel))
            obtain ⟨s401, e402⟩ : ∃ s9 : p_S, p_nx ps = s9 := ⟨_, rfl⟩
            rw [e402] at f388
            have := f388.w
            clear z358 z359
            have q403 := J377.keep t353 (by decide) q368
            have t404 := J377.up t369
            have q405 := J377.keep t353 (by decide) q370
            refine mv_istore_n (lv' := [(3, .int v380), (2, .int v346), (1, .int v10), (0, .ref o0)]) d_TrustDeskModel_readClause_110 rfl (by decide) rfl ?_
            refine mv_iload_n d_TrustDeskModel_readClause_111 rfl rfl ?_
            have := mz_hi v10
            refine mv_if_eqZ (tgt := 123) (a := v10.toInt) d_TrustDeskModel_readClause_112 (by decide) rfl (fun b406 => ?_) (fun b406 => absurd b406 (by omega))
            refine mv_iload_n d_TrustDeskModel_readClause_123 rfl rfl ?_
            have := mz_hi v346
            refine mv_if_eqZ (tgt := 135) (a := v346.toInt) d_TrustDeskModel_readClause_124 (by decide) rfl (fun b407 => ?_) (fun b407 => absurd b407 (by omega))
            refine mv_aload_n d_TrustDeskModel_readClause_135 rfl rfl ?_
            obtain ⟨a409, q408, t_a409⟩ := tm_atR I378 t389 (k := 8) rfl
            refine tr_getK q408 d_TrustDeskModel_readClause_136 f_TrustDeskModel_29_13 ?_
            refine mv_iload_n d_TrustDeskModel_readClause_139 rfl rfl ?_
            refine mv_aload_n d_TrustDeskModel_readClause_140 rfl rfl ?_
            refine mv_iconst (v := 1) d_TrustDeskModel_readClause_141 (by decide) ?_
            refine mv_bipush (v := 7) d_TrustDeskModel_readClause_142 (by decide) ?_
            obtain ⟨_, b416, -⟩ := I378.1 _ _ t389
            have : (1 : Int32).toInt = 1 := by decide
            have : (7 : Int32).toInt = 7 := by decide
            refine mv_callV (kc' := 0) (ks' := 0) (As := [.int 1, .int 7]) (st9 := [.int 7, .int 1, .ref o0, .int v380, .ref a409]) d_TrustDeskModel_readClause_144 lV_TrustDeskModel_317 b416 rfl (tc_TrustDeskModel_number_x (d := (d + 23)) (x9 := x9) (o0 := o0) (x1 := 1) (x2 := 7) t389 R381 E396.1 (E396.s yS (by decide)) f388 I378.start) rfl (Nat.le_of_ble_eq_true rfl) (Nat.le_of_ble_eq_true rfl) (Nat.le_of_ble_eq_true rfl) (hst := rfl) (fun b410r M411 n412 b410 => ?_)
            obtain ⟨T413, J414, v417, rfl, R418, f419, f420, f421, f422⟩ := b410
            have I415 := I378.call J414 (tm_sub (by decide)) (Or.inl rfl)
            have t423 := J414.up t389
            have t424 := J414.up t_a409
            have := f419.2.1
            have f425 := Im.i f419.w.2
            have f426 := Im.i f419.w2
            replace f422 := Im.i f422
            have z427 := (rv_c I378 J414 (I378.up h_o0) (k := 22) rfl).trans z393
            have z428 := (rv_c I378 J414 (I378.up h_o0) (k := 24) rfl).trans z394
            have z429 := (ra_call I378 J414 (I378.up h_o0) (k := 5) rfl rfl rfl 44).trans z395
            have z430 := (ra_call I378 J414 (I378.up h_o0) (k := 6) rfl rfl rfl 44)
            have z431 := (ra_call I378 J414 (I378.up h_o0) (k := 7) rfl rfl rfl ((880 + ra M0 o0 6 44).toNat))
            have z432 := (ra_call I378 J414 (I378.up h_o0) (k := 10) rfl rfl rfl ((880 + ra M0 o0 6 44).toNat))
            have E433 : rE M0 M411 o0 0 2 := E396.trans f419 (by decide) (yR.2 5 _ _ rfl 44).1 (by decide) (by decide)
            have K434 : rK M0 M411 o0 ((880 + ra M0 o0 6 44).toNat) := K398.same (sA_c I378 J414 (I378.up h_o0) (by decide +kernel))
            have K435 : nN M411 o0 := K399.same (sA_c I378 J414 (I378.up h_o0) (by decide +kernel)) (sF_c I378 J414 (I378.up h_o0) (by decide +kernel))
            have K436 : pN M411 o0 pn pN9 := K400.same (sA_c I378 J414 (I378.up h_o0) (by decide +kernel)) (sF_c I378 J414 (I378.up h_o0) (by decide +kernel))
            rw [show (1 : Int32).toInt = 1 from by decide] at f421
            rw [show (7 : Int32).toInt = 7 from by decide] at f421
            obtain ⟨s437, e438⟩ : ∃ s9 : p_S, p_num pb pn 1 7 s401 = s9 := ⟨_, rfl⟩
            rw [e438] at f421
            have := f421.w
            clear z393 z394 z395
            have q439 := J414.keep t389 (by decide) q403
            have t440 := J414.up t404
            have q441 := J414.keep t389 (by decide) q408
            refine tr_iastR (k := 8) I415 R418 (I415.up h_o0) q441 t424 (by decide) (by decide) (fun lo hi h => by cases h; have := R418.1 15 _ _ rfl; have := R418.1 16 _ _ rfl; have := R418.1 19 _ _ rfl; exact ⟨by show ((-1) : Int) ≤ v417.toInt; omega, by show v417.toInt ≤ (720 : Int); omega⟩) (Or.inl (by decide)) d_TrustDeskModel_readClause_147 (vp_in_iff.mpr (by have := R418.1 15 _ _ rfl; have := R418.1 16 _ _ rfl; have := R418.1 19 _ _ rfl; omega)) (fun M442 I443 K444 R445 E446 A447 V448 => ?_)
            have z449 := (V448 15)
            have z450 := (V448 16)
            have z451 := (V448 17)
            have z452 := (V448 19)
            have z453 := (V448 22).trans z427
            have z454 := (V448 24).trans z428
            have z455 := (A447 5 (by decide) rfl 44).trans z429
            have z456 := (A447 6 (by decide) rfl 44).trans z430
            have z457 := (A447 7 (by decide) rfl ((880 + ra M0 o0 6 44).toNat)).trans z431
            have z458 := (A447 10 (by decide) rfl ((880 + ra M0 o0 6 44).toNat)).trans z432
            have E459 : rE M0 M442 o0 0 2 := E433.same (fun k _ _ => V448 k) (fun k h1 h2 => A447 k (by omega) (by rcases (show k = 4 ∨ k = 5 by omega) with rfl | rfl <;> rfl))
            have h460 : (880 + ra M0 o0 6 44).toNat = v380.toNatClampNeg := by have := mz_nat9 (i := v380) (by have := R418.1 15 _ _ rfl; have := R418.1 16 _ _ rfl; have := R418.1 19 _ _ rfl; omega); have := R418.1 15 _ _ rfl; have := R418.1 16 _ _ rfl; have := R418.1 19 _ _ rfl; omega
            have z461 : ra M442 o0 8 ((880 + ra M0 o0 6 44).toNat) = v417.toInt := (E446 _).trans (if_pos h460)
            have K462 : rK M0 M442 o0 ((880 + ra M0 o0 6 44).toNat) := K434.st A447 E446 (by have := mz_nat9 (i := v380) (by have := R418.1 15 _ _ rfl; have := R418.1 16 _ _ rfl; have := R418.1 19 _ _ rfl; omega); have := R418.1 15 _ _ rfl; have := R418.1 16 _ _ rfl; have := R418.1 19 _ _ rfl; omega)
            have K463 : nN M442 o0 := K435.same (sA_a A447 (by decide +kernel)) (sF_a V448)
            have K464 : pN M442 o0 pn pN9 := K436.same (sA_a A447 (by decide +kernel)) (sF_a V448)
            have Z9465 : pO M442 o0 pb pn pa s437 := f421.same (fun k _ _ => V448 k) (V448 23) (A447 13 (by decide) rfl)
            clear z427 z428 z429 z430 z431 z432
            refine mv_aload_n d_TrustDeskModel_readClause_148 rfl rfl ?_
            obtain ⟨a467, q466, t_a467⟩ := tm_atR I443 t423 (k := 9) rfl
            refine tr_getK q466 d_TrustDeskModel_readClause_149 f_TrustDeskModel_32_13 ?_
            refine mv_iload_n d_TrustDeskModel_readClause_152 rfl rfl ?_
            refine mv_aload_n d_TrustDeskModel_readClause_153 rfl rfl ?_
            refine mv_iconst (v := 1) d_TrustDeskModel_readClause_154 (by decide) ?_
            refine mv_aload_n d_TrustDeskModel_readClause_155 rfl rfl ?_
            refine tr_getK (k := 8) (K444 _ 13 8 _ q441) d_TrustDeskModel_readClause_156 f_TrustDeskModel_29_13 ?_
            refine mv_iload_n d_TrustDeskModel_readClause_159 rfl rfl ?_
            refine tr_ialdR (o := o0) (k := 8) I443 (K444 _ 13 8 _ q441) t424 (by decide) d_TrustDeskModel_readClause_160 (vp_in_iff.mpr (by have := R445.1 15 _ _ rfl; have := R445.1 16 _ _ rfl; have := R445.1 19 _ _ rfl; omega)) (fun v468 e469 => ?_)
            have := R445.a (k := 8) rfl (v380 : Int32).toNatClampNeg
            have h470 : (880 + ra M0 o0 6 44).toNat = v380.toNatClampNeg := by have := mz_nat9 (i := v380) (by have := R445.1 15 _ _ rfl; have := R445.1 16 _ _ rfl; have := R445.1 19 _ _ rfl; omega); have := R445.1 15 _ _ rfl; have := R445.1 16 _ _ rfl; have := R445.1 19 _ _ rfl; omega
            have z471 : v468.toInt = ra M442 o0 8 ((880 + ra M0 o0 6 44).toNat) := by rw [e469, h470]
            have : v468.toInt = _ := Eq.trans z471 z461
            obtain ⟨_, b478, -⟩ := I443.1 _ _ t423
            have : (1 : Int32).toInt = 1 := by decide
            refine mv_callV (kc' := 0) (ks' := 0) (As := [.int 1, .int v468]) (st9 := [.int v468, .int 1, .ref o0, .int v380, .ref a467]) d_TrustDeskModel_readClause_161 lV_TrustDeskModel_317 b478 rfl (tc_TrustDeskModel_number_x (d := (d + 23)) (x9 := x9) (o0 := o0) (x1 := 1) (x2 := v468) t423 R445 E459.1 (E459.s yS (by decide)) Z9465 I443.start) rfl (Nat.le_of_ble_eq_true rfl) (Nat.le_of_ble_eq_true rfl) (Nat.le_of_ble_eq_true rfl) (hst := rfl) (fun b472r M473 n474 b472 => ?_)
            obtain ⟨T475, J476, v479, rfl, R480, f481, f482, f483, f484⟩ := b472
            have I477 := I443.call J476 (tm_sub (by decide)) (Or.inl rfl)
            have t485 := J476.up t423
            have t486 := J476.up t_a467
            have := f481.2.1
            have f487 := Im.i f481.w.2
            have f488 := Im.i f481.w2
            replace f484 := Im.i f484
            have z489 := (rv_c I443 J476 (I443.up h_o0) (k := 22) rfl).trans z453
            have z490 := (rv_c I443 J476 (I443.up h_o0) (k := 24) rfl).trans z454
            have z491 := (ra_call I443 J476 (I443.up h_o0) (k := 5) rfl rfl rfl 44).trans z455
            have z492 := (ra_call I443 J476 (I443.up h_o0) (k := 6) rfl rfl rfl 44).trans z456
            have z493 := (ra_call I443 J476 (I443.up h_o0) (k := 7) rfl rfl rfl ((880 + ra M0 o0 6 44).toNat)).trans z457
            have z494 := (ra_call I443 J476 (I443.up h_o0) (k := 10) rfl rfl rfl ((880 + ra M0 o0 6 44).toNat)).trans z458
            have z495 := (ra_call I443 J476 (I443.up h_o0) (k := 8) rfl rfl rfl ((880 + ra M0 o0 6 44).toNat)).trans z461
            have E496 : rE M0 M473 o0 0 3 := E459.trans f481 (by decide) (yR.2 5 _ _ rfl 44).1 (by decide) (by decide)
            have K497 : rK M0 M473 o0 ((880 + ra M0 o0 6 44).toNat) := K462.same (sA_c I443 J476 (I443.up h_o0) (by decide +kernel))
            have K498 : nN M473 o0 := K463.same (sA_c I443 J476 (I443.up h_o0) (by decide +kernel)) (sF_c I443 J476 (I443.up h_o0) (by decide +kernel))
            have K499 : pN M473 o0 pn pN9 := K464.same (sA_c I443 J476 (I443.up h_o0) (by decide +kernel)) (sF_c I443 J476 (I443.up h_o0) (by decide +kernel))
            rw [show (1 : Int32).toInt = 1 from by decide] at f483
            obtain ⟨s500, e501⟩ : ∃ s9 : p_S, p_num pb pn 1 v468.toInt s437 = s9 := ⟨_, rfl⟩
            rw [e501] at f483
            have := f483.w
            clear z453 z454 z455 z456 z457 z458 z461
            have q502 := J476.keep t423 (by decide) (K444 _ 13 6 _ q439)
            have t503 := J476.up t440
            have q504 := J476.keep t423 (by decide) (K444 _ 13 8 _ q441)
            have t505 := J476.up t424
            have q506 := J476.keep t423 (by decide) q466
            refine tr_iastR (k := 9) I477 R480 (I477.up h_o0) q506 t486 (by decide) (by decide) (fun lo hi h => by cases h) (Or.inl (by decide)) d_TrustDeskModel_readClause_164 (vp_in_iff.mpr (by have := R480.1 15 _ _ rfl; have := R480.1 16 _ _ rfl; have := R480.1 19 _ _ rfl; omega)) (fun M507 I508 K509 R510 E511 A512 V513 => ?_)
            have z514 := (V513 15)
            have z515 := (V513 16)
            have z516 := (V513 17)
            have z517 := (V513 19)
            have z518 := (V513 22).trans z489
            have z519 := (V513 24).trans z490
            have z520 := (A512 5 (by decide) rfl 44).trans z491
            have z521 := (A512 6 (by decide) rfl 44).trans z492
            have z522 := (A512 7 (by decide) rfl ((880 + ra M0 o0 6 44).toNat)).trans z493
            have z523 := (A512 10 (by decide) rfl ((880 + ra M0 o0 6 44).toNat)).trans z494
            have z524 := (A512 8 (by decide) rfl ((880 + ra M0 o0 6 44).toNat)).trans z495
            have E525 : rE M0 M507 o0 0 3 := E496.same (fun k _ _ => V513 k) (fun k h1 h2 => A512 k (by omega) (by rcases (show k = 4 ∨ k = 5 by omega) with rfl | rfl <;> rfl))
            have K526 : rK M0 M507 o0 ((880 + ra M0 o0 6 44).toNat) := K497.same (sA_a A512 (by decide +kernel))
            have K527 : nN M507 o0 := K498.same (sA_a A512 (by decide +kernel)) (sF_a V513)
            have K528 : pN M507 o0 pn pN9 := K499.same (sA_a A512 (by decide +kernel)) (sF_a V513)
            have Z9529 : pO M507 o0 pb pn pa s500 := f483.same (fun k _ _ => V513 k) (V513 23) (A512 13 (by decide) rfl)
            clear z489 z490 z491 z492 z493 z494 z495
            refine mv_aload_n d_TrustDeskModel_readClause_165 rfl rfl ?_
            refine mv_bipush (v := 59) d_TrustDeskModel_readClause_166 (by decide) ?_
            obtain ⟨_, b536, -⟩ := I508.1 _ _ t485
            have : (59 : Int32).toInt = 59 := by decide
            refine mv_callV (kc' := 0) (ks' := 0) (As := [.int 59]) (st9 := [.int 59, .ref o0]) d_TrustDeskModel_readClause_168 lV_TrustDeskModel_291 b536 rfl (tc_TrustDeskModel_wantSign_x (d := (d + 23)) (x9 := x9) (o0 := o0) (x1 := 59) t485 R510 E525.1 (E525.s yS (by decide)) (by decide) Z9529 I508.start) rfl (Nat.le_of_ble_eq_true rfl) (Nat.le_of_ble_eq_true rfl) (Nat.le_of_ble_eq_true rfl) (hst := rfl) (fun b530r M531 n532 b530 => ?_)
            obtain ⟨T533, J534, rfl, R537, f538, f539⟩ := b530
            have I535 := I508.call J534 (tm_sub (by decide)) (Or.inl rfl)
            have t540 := J534.up t485
            have := f538.2.1
            have f541 := Im.i f538.w.2
            have f542 := Im.i f538.w2
            have z543 := (rv_c I508 J534 (I508.up h_o0) (k := 22) rfl).trans z518
            have z544 := (rv_c I508 J534 (I508.up h_o0) (k := 24) rfl).trans z519
            have z545 := (ra_call I508 J534 (I508.up h_o0) (k := 5) rfl rfl rfl 44).trans z520
            have z546 := (ra_call I508 J534 (I508.up h_o0) (k := 6) rfl rfl rfl 44).trans z521
            have z547 := (ra_call I508 J534 (I508.up h_o0) (k := 7) rfl rfl rfl ((880 + ra M0 o0 6 44).toNat)).trans z522
            have z548 := (ra_call I508 J534 (I508.up h_o0) (k := 10) rfl rfl rfl ((880 + ra M0 o0 6 44).toNat)).trans z523
            have z549 := (ra_call I508 J534 (I508.up h_o0) (k := 8) rfl rfl rfl ((880 + ra M0 o0 6 44).toNat)).trans z524
            have E550 : rE M0 M531 o0 0 4 := E525.trans f538 (by decide) (yR.2 5 _ _ rfl 44).1 (by decide) (by decide)
            have K551 : rK M0 M531 o0 ((880 + ra M0 o0 6 44).toNat) := K526.same (sA_c I508 J534 (I508.up h_o0) (by decide +kernel))
            have K552 : nN M531 o0 := K527.same (sA_c I508 J534 (I508.up h_o0) (by decide +kernel)) (sF_c I508 J534 (I508.up h_o0) (by decide +kernel))
            have K553 : pN M531 o0 pn pN9 := K528.same (sA_c I508 J534 (I508.up h_o0) (by decide +kernel)) (sF_c I508 J534 (I508.up h_o0) (by decide +kernel))
            rw [show (59 : Int32).toInt = 59 from by decide] at f539
            obtain ⟨s554, e555⟩ : ∃ s9 : p_S, p_sg pb pn 59 s500 = s9 := ⟨_, rfl⟩
            rw [e555] at f539
            have := f539.w
            clear z518 z519 z520 z521 z522 z523 z524
            have q556 := J534.keep t485 (by decide) (K509 _ 13 6 _ q502)
            have t557 := J534.up t503
            have q558 := J534.keep t485 (by decide) (K509 _ 13 8 _ q504)
            have t559 := J534.up t505
            have q560 := J534.keep t485 (by decide) (K509 _ 13 9 _ q506)
            have t561 := J534.up t486
            refine mv_aload_n d_TrustDeskModel_readClause_171 rfl rfl ?_
            obtain ⟨a563, q562, t_a563⟩ := tm_atR I535 t540 (k := 12) rfl
            refine tr_getK q562 d_TrustDeskModel_readClause_172 f_TrustDeskModel_41_13 ?_
            refine mv_iload_n d_TrustDeskModel_readClause_175 rfl rfl ?_
            refine mv_aload_n d_TrustDeskModel_readClause_176 rfl rfl ?_
            obtain ⟨a565, q564, t_a565⟩ := tm_atR I535 t540 (k := 5) rfl
            refine tr_getK q564 d_TrustDeskModel_readClause_177 f_TrustDeskModel_20_13 ?_
            refine mv_bipush (v := 44) d_TrustDeskModel_readClause_180 (by decide) ?_
            refine tr_ialdR (o := o0) (k := 5) I535 q564 t_a565 (by decide) d_TrustDeskModel_readClause_182 (by unfold vp_in; decide) (fun v566 e567 => ?_)
            have := R537.a (k := 5) rfl (44 : Int32).toNatClampNeg
            have : v566.toInt = ra M531 o0 5 44 := e567
            have : v566.toInt = _ := Eq.trans e567 z545
            refine tr_iastR (k := 12) I535 R537 (I535.up h_o0) q562 t_a563 (by decide) (by decide) (fun lo hi h => by cases h; have := R537.1 15 _ _ rfl; have := R537.1 16 _ _ rfl; have := R537.1 19 _ _ rfl; exact ⟨by show (0 : Int) ≤ v566.toInt; omega, by show v566.toInt ≤ (400 : Int); omega⟩) (Or.inl (by decide)) d_TrustDeskModel_readClause_183 (vp_in_iff.mpr (by have := R537.1 15 _ _ rfl; have := R537.1 16 _ _ rfl; have := R537.1 19 _ _ rfl; omega)) (fun M568 I569 K570 R571 E572 A573 V574 => ?_)
            have z575 := (V574 15)
            have z576 := (V574 16)
            have z577 := (V574 17)
            have z578 := (V574 19)
            have z579 := (V574 22).trans z543
            have z580 := (V574 24).trans z544
            have z581 := (A573 5 (by decide) rfl 44).trans z545
            have z582 := (A573 6 (by decide) rfl 44).trans z546
            have z583 := (A573 7 (by decide) rfl ((880 + ra M0 o0 6 44).toNat)).trans z547
            have z584 := (A573 10 (by decide) rfl ((880 + ra M0 o0 6 44).toNat)).trans z548
            have z585 := (A573 8 (by decide) rfl ((880 + ra M0 o0 6 44).toNat)).trans z549
            have E586 : rE M0 M568 o0 0 4 := E550.same (fun k _ _ => V574 k) (fun k h1 h2 => A573 k (by omega) (by rcases (show k = 4 ∨ k = 5 by omega) with rfl | rfl <;> rfl))
            have h587 : (880 + ra M0 o0 6 44).toNat = v380.toNatClampNeg := by have := mz_nat9 (i := v380) (by have := R537.1 15 _ _ rfl; have := R537.1 16 _ _ rfl; have := R537.1 19 _ _ rfl; omega); have := R537.1 15 _ _ rfl; have := R537.1 16 _ _ rfl; have := R537.1 19 _ _ rfl; omega
            have z588 : ra M568 o0 12 ((880 + ra M0 o0 6 44).toNat) = v566.toInt := (E572 _).trans (if_pos h587)
            have K589 : rK M0 M568 o0 ((880 + ra M0 o0 6 44).toNat) := K551.st A573 E572 (by have := mz_nat9 (i := v380) (by have := R537.1 15 _ _ rfl; have := R537.1 16 _ _ rfl; have := R537.1 19 _ _ rfl; omega); have := R537.1 15 _ _ rfl; have := R537.1 16 _ _ rfl; have := R537.1 19 _ _ rfl; omega)
            have K590 : nN M568 o0 := K552.same (sA_a A573 (by decide +kernel)) (sF_a V574)
            have K591 : pN M568 o0 pn pN9 := K553.same (sA_a A573 (by decide +kernel)) (sF_a V574)
            have Z9592 : pO M568 o0 pb pn pa s554 := f539.same (fun k _ _ => V574 k) (V574 23) (A573 13 (by decide) rfl)
            clear z543 z544 z545 z546 z547 z548 z549
            exact mv_vret d_TrustDeskModel_readClause_184 rfl ⟨_, I569, rfl, R571, (rW.of E586.1 (E586.s yS (by decide)) (fun w9 => by have u91 : rv M531 o0 19 = 0 := (by omega); have := f541.o u91; have := f542.o u91; have u92 : rv M473 o0 19 = 0 := (by omega); have := f487.o u92; have := f488.o u92; have := f484.o u92; have u93 : rv M411 o0 19 = 0 := (by omega); have := f425.o u93; have := f426.o u93; have := f422.o u93; have u94 : rv M374 o0 19 = 0 := (by omega); have := f390.o u94; have := f391.o u94; exact rG.step yG yR E586 w9 K589 (by have := yR.2 6 _ _ rfl 44; omega) (by have := R571.1 15 _ _ rfl; have := R571.1 16 _ _ rfl; have := R571.1 19 _ _ rfl; omega) (by have := R571.1 15 _ _ rfl; have := R571.1 16 _ _ rfl; have := R571.1 19 _ _ rfl; omega) (fun h9 => by exfalso; have := R571.1 15 _ _ rfl; have := R571.1 16 _ _ rfl; have := R571.1 19 _ _ rfl; omega) (fun h9 => (by have := R571.1 15 _ _ rfl; have := R571.1 16 _ _ rfl; have := R571.1 19 _ _ rfl; omega)) (by have := R571.1 15 _ _ rfl; have := R571.1 16 _ _ rfl; have := R571.1 19 _ _ rfl; omega) K590)), (rO.of E586 K589 (by have := yR.2 6 _ _ rfl 44; omega)), ⟨E586.2.1, fun w9 => by skip; have := E586.w2 w9; omega⟩, (fun w9 => by have u91 : rv M531 o0 19 = 0 := (by omega); have := f541.o u91; have := f542.o u91; have u92 : rv M473 o0 19 = 0 := (by omega); have := f487.o u92; have := f488.o u92; have := f484.o u92; have u93 : rv M411 o0 19 = 0 := (by omega); have := f425.o u93; have := f426.o u93; have := f422.o u93; have u94 : rv M374 o0 19 = 0 := (by omega); have := f390.o u94; have := f391.o u94; omega), (fun h9 _ => absurd h9 (f16.o (by have := R571.1 15 _ _ rfl; have := R571.1 16 _ _ rfl; have := R571.1 19 _ _ rfl; omega))), (by have := R571.1 15 _ _ rfl; have := R571.1 16 _ _ rfl; have := R571.1 19 _ _ rfl; omega), (by first | (have := pW0 (Im.o d31) (by omega); have := Z930.wk; have := pW1 (Im.o d297) (by omega); have := pW0 (Im.o d367) (by omega); rw [show (p_cl pb pn pa (pc9, pN9, ps)).2 = s554 from (by unfold p_cl; unfold p_tru; (try simp only [e402, e438, e501, e555]); ((repeat' (first | (with_reducible rfl) | split)) <;> (first | ((try simp only [e402, e438, e501, e555]); done) | ((try simp only [e402, e438, e501, e555]); first | exact p_sg_Z _ (by omega) | omega) | (exfalso; omega))))]; exact Z9592) | (exfalso; have := R571.1 15 _ _ rfl; have := R571.1 16 _ _ rfl; have := R571.1 19 _ _ rfl; omega)), (fun w9 => by have u91 : rv M531 o0 19 = 0 := (by omega); have := f541.o u91; have := f542.o u91; have u92 : rv M473 o0 19 = 0 := (by omega); have := f487.o u92; have := f488.o u92; have := f484.o u92; have u93 : rv M411 o0 19 = 0 := (by omega); have := f425.o u93; have := f426.o u93; have := f422.o u93; have u94 : rv M374 o0 19 = 0 := (by omega); have := f390.o u94; have := f391.o u94; omega), (fun w9 => by have u91 : rv M531 o0 19 = 0 := (by omega); have := f541.o u91; have := f542.o u91; have u92 : rv M473 o0 19 = 0 := (by omega); have := f487.o u92; have := f488.o u92; have := f484.o u92; have u93 : rv M411 o0 19 = 0 := (by omega); have := f425.o u93; have := f426.o u93; have := f422.o u93; have u94 : rv M374 o0 19 = 0 := (by omega); have := f390.o u94; have := f391.o u94; have := pW0 (Im.o d31) (by omega); have := Z930.wk; have := pW1 (Im.o d297) (by omega); have := pW0 (Im.o d367) (by omega); have e9 : (p_cl pb pn pa (pc9, pN9, ps)).1 = pN9 := (by unfold p_cl; (repeat' split) <;> first | rfl | (exfalso; omega)); rw [e9]; exact K591)⟩
          · refine mv_bipush (v := 7) d_TrustDeskModel_readClause_100 (by decide) ?_
            refine mv_goto (tgt := 107) d_TrustDeskModel_readClause_102 (by decide) ?_
            obtain ⟨_, b599, -⟩ := I344.1 _ _ t353
            have : (7 : Int32).toInt = 7 := by decide
            refine mv_callV (kc' := 0) (ks' := 0) (As := [.int 7]) (st9 := [.int 7, .ref o0]) d_TrustDeskModel_readClause_107 lV_TrustDeskModel_342 b599 rfl (tc_TrustDeskModel_begin_x (d := (d + 23)) (x9 := x9) (o0 := o0) (x1 := 7) t353 R349 E362.1 (E362.s yS (by decide)) (by have := R349.1 15 _ _ rfl; have := R349.1 16 _ _ rfl; have := R349.1 19 _ _ rfl; omega) (by have := f350.o (by omega); omega) (by have := R349.1 15 _ _ rfl; have := R349.1 16 _ _ rfl; have := R349.1 19 _ _ rfl; omega) Z9366 I344.start) rfl (Nat.le_of_ble_eq_true rfl) (Nat.le_of_ble_eq_true rfl) (Nat.le_of_ble_eq_true rfl) (hst := rfl) (fun b593r M594 n595 b593 => ?_)
            obtain ⟨T596, J597, v600, rfl, R601, f602, f603, f604, f605, f606, f607, f608⟩ := b593
            have I598 := I344.call J597 (tm_sub (by decide)) (Or.inl rfl)
            have t609 := J597.up t353
            have := f602.2.1
            have f610 := Im.i f602.w.2
            have f611 := Im.i f602.w2
            have z612 := (rv_c I344 J597 (I344.up h_o0) (k := 19) rfl).trans z357
            have z613 := (rv_c I344 J597 (I344.up h_o0) (k := 22) rfl).trans z358
            have z614 := (rv_c I344 J597 (I344.up h_o0) (k := 24) rfl).trans z359
            have z615 := (ra_call I344 J597 (I344.up h_o0) (k := 5) rfl rfl rfl 44).trans z360
            have E616 : rE M0 M594 o0 0 1 := E362.trans f602 (by decide) (yR.2 5 _ _ rfl 44).1 (by decide) (by decide)
            have h617 : (880 + ra M340 o0 6 44).toNat = (880 + ra M0 o0 6 44).toNat := by omega
            rw [h617] at f605 f606 f607
            have K618 : rK M0 M594 o0 ((880 + ra M0 o0 6 44).toNat) := K363.trans f607
            have K619 : nN M594 o0 := K364.same (sA_c I344 J597 (I344.up h_o0) (by decide +kernel)) (sF_c I344 J597 (I344.up h_o0) (by decide +kernel))
            have K620 : pN M594 o0 pn pN9 := K365.same (sA_c I344 J597 (I344.up h_o0) (by decide +kernel)) (sF_c I344 J597 (I344.up h_o0) (by decide +kernel))
            obtain ⟨s621, e622⟩ : ∃ s9 : p_S, p_nx ps = s9 := ⟨_, rfl⟩
            rw [e622] at f608
            have := f608.w
            clear z358 z359
            have q623 := J597.keep t353 (by decide) q368
            have t624 := J597.up t369
            have q625 := J597.keep t353 (by decide) q370
            refine mv_istore_n (lv' := [(3, .int v600), (2, .int v346), (1, .int v10), (0, .ref o0)]) d_TrustDeskModel_readClause_110 rfl (by decide) rfl ?_
            refine mv_iload_n d_TrustDeskModel_readClause_111 rfl rfl ?_
            have := mz_hi v10
            refine mv_if_eqZ (tgt := 123) (a := v10.toInt) d_TrustDeskModel_readClause_112 (by decide) rfl (fun b626 => ?_) (fun b626 => absurd b626 (by omega))
            refine mv_iload_n d_TrustDeskModel_readClause_123 rfl rfl ?_
            have := mz_hi v346
            refine mv_if_eqZ (tgt := 135) (a := v346.toInt) d_TrustDeskModel_readClause_124 (by decide) rfl (fun b627 => absurd b627 (by omega)) (fun b627 => ?_)
            refine mv_aload_n d_TrustDeskModel_readClause_127 rfl rfl ?_
            refine mv_iload_n d_TrustDeskModel_readClause_128 rfl rfl ?_
            obtain ⟨_, b634, -⟩ := I598.1 _ _ t609
            refine mv_callV (kc' := 0) (ks' := 0) (As := [.int v600]) (st9 := [.int v600, .ref o0]) d_TrustDeskModel_readClause_129 lV_TrustDeskModel_348 b634 rfl (tc_TrustDeskModel_readMarks_x (d := (d + 22)) (x9 := x9) (o0 := o0) (x1 := v600) t609 R601 E616.1 (E616.s yS (by decide)) (by have := R601.1 15 _ _ rfl; have := R601.1 16 _ _ rfl; have := R601.1 19 _ _ rfl; omega) f608 I598.start) rfl (Nat.le_of_ble_eq_true rfl) (Nat.le_of_ble_eq_true rfl) (Nat.le_of_ble_eq_true rfl) (hst := rfl) (fun b628r M629 n630 b628 => ?_)
            obtain ⟨T631, J632, rfl, R635, f636, f637, f638, f639⟩ := b628
            have I633 := I598.call J632 (tm_sub (by decide)) (Or.inl rfl)
            have t640 := J632.up t609
            have := f636.2.1
            have f641 := Im.i f636.w.2
            have f642 := Im.i f636.w2
            have z643 := (rv_c I598 J632 (I598.up h_o0) (k := 22) rfl).trans z613
            have z644 := (rv_c I598 J632 (I598.up h_o0) (k := 24) rfl).trans z614
            have z645 := (ra_call I598 J632 (I598.up h_o0) (k := 5) rfl rfl rfl 44).trans z615
            have z646 := (ra_call I598 J632 (I598.up h_o0) (k := 6) rfl rfl rfl 44)
            have z647 := (ra_call I598 J632 (I598.up h_o0) (k := 7) rfl rfl rfl ((880 + ra M0 o0 6 44).toNat))
            have z648 := (ra_call I598 J632 (I598.up h_o0) (k := 10) rfl rfl rfl ((880 + ra M0 o0 6 44).toNat))
            have E649 : rE M0 M629 o0 0 1 := E616.trans f636 (by decide) (yR.2 5 _ _ rfl 44).1 (by decide) (by decide)
            have h650 : v600.toNatClampNeg = (880 + ra M0 o0 6 44).toNat := by have := mz_nat9 (i := v600) (by have := R601.1 15 _ _ rfl; have := R601.1 16 _ _ rfl; have := R601.1 19 _ _ rfl; omega); have := R601.1 15 _ _ rfl; have := R601.1 16 _ _ rfl; have := R601.1 19 _ _ rfl; omega
            rw [h650] at f637 f638
            have K651 : rK M0 M629 o0 ((880 + ra M0 o0 6 44).toNat) := K618.one8 (sA_c I598 J632 (I598.up h_o0) (by decide)) f637
            have K652 : nN M629 o0 := K619.same (sA_c I598 J632 (I598.up h_o0) (by decide +kernel)) (sF_c I598 J632 (I598.up h_o0) (by decide +kernel))
            have K653 : pN M629 o0 pn pN9 := K620.same (sA_c I598 J632 (I598.up h_o0) (by decide +kernel)) (sF_c I598 J632 (I598.up h_o0) (by decide +kernel))
            obtain ⟨s654, e655⟩ : ∃ s9 : p_S, p_mar pb pn s621 = s9 := ⟨_, rfl⟩
            rw [e655] at f639
            have := f639.w
            clear z613 z614 z615
            have q656 := J632.keep t609 (by decide) q623
            have t657 := J632.up t624
            refine mv_goto (tgt := 165) d_TrustDeskModel_readClause_132 (by decide) ?_
            refine mv_aload_n d_TrustDeskModel_readClause_165 rfl rfl ?_
            refine mv_bipush (v := 59) d_TrustDeskModel_readClause_166 (by decide) ?_
            obtain ⟨_, b664, -⟩ := I633.1 _ _ t640
            have : (59 : Int32).toInt = 59 := by decide
            refine mv_callV (kc' := 0) (ks' := 0) (As := [.int 59]) (st9 := [.int 59, .ref o0]) d_TrustDeskModel_readClause_168 lV_TrustDeskModel_291 b664 rfl (tc_TrustDeskModel_wantSign_x (d := (d + 23)) (x9 := x9) (o0 := o0) (x1 := 59) t640 R635 E649.1 (E649.s yS (by decide)) (by decide) f639 I633.start) rfl (Nat.le_of_ble_eq_true rfl) (Nat.le_of_ble_eq_true rfl) (Nat.le_of_ble_eq_true rfl) (hst := rfl) (fun b658r M659 n660 b658 => ?_)
            obtain ⟨T661, J662, rfl, R665, f666, f667⟩ := b658
            have I663 := I633.call J662 (tm_sub (by decide)) (Or.inl rfl)
            have t668 := J662.up t640
            have := f666.2.1
            have f669 := Im.i f666.w.2
            have f670 := Im.i f666.w2
            have z671 := (rv_c I633 J662 (I633.up h_o0) (k := 22) rfl).trans z643
            have z672 := (rv_c I633 J662 (I633.up h_o0) (k := 24) rfl).trans z644
            have z673 := (ra_call I633 J662 (I633.up h_o0) (k := 5) rfl rfl rfl 44).trans z645
            have z674 := (ra_call I633 J662 (I633.up h_o0) (k := 6) rfl rfl rfl 44).trans z646
            have z675 := (ra_call I633 J662 (I633.up h_o0) (k := 7) rfl rfl rfl ((880 + ra M0 o0 6 44).toNat)).trans z647
            have z676 := (ra_call I633 J662 (I633.up h_o0) (k := 10) rfl rfl rfl ((880 + ra M0 o0 6 44).toNat)).trans z648
            have z677 := (ra_call I633 J662 (I633.up h_o0) (k := 8) rfl rfl rfl ((880 + ra M0 o0 6 44).toNat))
            have E678 : rE M0 M659 o0 0 2 := E649.trans f666 (by decide) (yR.2 5 _ _ rfl 44).1 (by decide) (by decide)
            have K679 : rK M0 M659 o0 ((880 + ra M0 o0 6 44).toNat) := K651.same (sA_c I633 J662 (I633.up h_o0) (by decide +kernel))
            have K680 : nN M659 o0 := K652.same (sA_c I633 J662 (I633.up h_o0) (by decide +kernel)) (sF_c I633 J662 (I633.up h_o0) (by decide +kernel))
            have K681 : pN M659 o0 pn pN9 := K653.same (sA_c I633 J662 (I633.up h_o0) (by decide +kernel)) (sF_c I633 J662 (I633.up h_o0) (by decide +kernel))
            rw [show (59 : Int32).toInt = 59 from by decide] at f667
            obtain ⟨s682, e683⟩ : ∃ s9 : p_S, p_sg pb pn 59 s654 = s9 := ⟨_, rfl⟩
            rw [e683] at f667
            have := f667.w
            clear z643 z644 z645 z646 z647 z648
            have q684 := J662.keep t640 (by decide) q656
            have t685 := J662.up t657
            refine mv_aload_n d_TrustDeskModel_readClause_171 rfl rfl ?_
            obtain ⟨a687, q686, t_a687⟩ := tm_atR I663 t668 (k := 12) rfl
            refine tr_getK q686 d_TrustDeskModel_readClause_172 f_TrustDeskModel_41_13 ?_
            refine mv_iload_n d_TrustDeskModel_readClause_175 rfl rfl ?_
            refine mv_aload_n d_TrustDeskModel_readClause_176 rfl rfl ?_
            obtain ⟨a689, q688, t_a689⟩ := tm_atR I663 t668 (k := 5) rfl
            refine tr_getK q688 d_TrustDeskModel_readClause_177 f_TrustDeskModel_20_13 ?_
            refine mv_bipush (v := 44) d_TrustDeskModel_readClause_180 (by decide) ?_
            refine tr_ialdR (o := o0) (k := 5) I663 q688 t_a689 (by decide) d_TrustDeskModel_readClause_182 (by unfold vp_in; decide) (fun v690 e691 => ?_)
            have := R665.a (k := 5) rfl (44 : Int32).toNatClampNeg
            have : v690.toInt = ra M659 o0 5 44 := e691
            have : v690.toInt = _ := Eq.trans e691 z673
            refine tr_iastR (k := 12) I663 R665 (I663.up h_o0) q686 t_a687 (by decide) (by decide) (fun lo hi h => by cases h; have := R665.1 15 _ _ rfl; have := R665.1 16 _ _ rfl; have := R665.1 19 _ _ rfl; exact ⟨by show (0 : Int) ≤ v690.toInt; omega, by show v690.toInt ≤ (400 : Int); omega⟩) (Or.inl (by decide)) d_TrustDeskModel_readClause_183 (vp_in_iff.mpr (by have := R665.1 15 _ _ rfl; have := R665.1 16 _ _ rfl; have := R665.1 19 _ _ rfl; omega)) (fun M692 I693 K694 R695 E696 A697 V698 => ?_)
            have z699 := (V698 15)
            have z700 := (V698 16)
            have z701 := (V698 17)
            have z702 := (V698 19)
            have z703 := (V698 22).trans z671
            have z704 := (V698 24).trans z672
            have z705 := (A697 5 (by decide) rfl 44).trans z673
            have z706 := (A697 6 (by decide) rfl 44).trans z674
            have z707 := (A697 7 (by decide) rfl ((880 + ra M0 o0 6 44).toNat)).trans z675
            have z708 := (A697 10 (by decide) rfl ((880 + ra M0 o0 6 44).toNat)).trans z676
            have z709 := (A697 8 (by decide) rfl ((880 + ra M0 o0 6 44).toNat)).trans z677
            have E710 : rE M0 M692 o0 0 2 := E678.same (fun k _ _ => V698 k) (fun k h1 h2 => A697 k (by omega) (by rcases (show k = 4 ∨ k = 5 by omega) with rfl | rfl <;> rfl))
            have h711 : (880 + ra M0 o0 6 44).toNat = v600.toNatClampNeg := by have := mz_nat9 (i := v600) (by have := R665.1 15 _ _ rfl; have := R665.1 16 _ _ rfl; have := R665.1 19 _ _ rfl; omega); have := R665.1 15 _ _ rfl; have := R665.1 16 _ _ rfl; have := R665.1 19 _ _ rfl; omega
            have z712 : ra M692 o0 12 ((880 + ra M0 o0 6 44).toNat) = v690.toInt := (E696 _).trans (if_pos h711)
            have K713 : rK M0 M692 o0 ((880 + ra M0 o0 6 44).toNat) := K679.st A697 E696 (by have := mz_nat9 (i := v600) (by have := R665.1 15 _ _ rfl; have := R665.1 16 _ _ rfl; have := R665.1 19 _ _ rfl; omega); have := R665.1 15 _ _ rfl; have := R665.1 16 _ _ rfl; have := R665.1 19 _ _ rfl; omega)
            have K714 : nN M692 o0 := K680.same (sA_a A697 (by decide +kernel)) (sF_a V698)
            have K715 : pN M692 o0 pn pN9 := K681.same (sA_a A697 (by decide +kernel)) (sF_a V698)
            have Z9716 : pO M692 o0 pb pn pa s682 := f667.same (fun k _ _ => V698 k) (V698 23) (A697 13 (by decide) rfl)
            clear z671 z672 z673 z674 z675 z676 z677
            exact mv_vret d_TrustDeskModel_readClause_184 rfl ⟨_, I693, rfl, R695, (rW.of E710.1 (E710.s yS (by decide)) (fun w9 => by have u91 : rv M659 o0 19 = 0 := (by omega); have := f669.o u91; have := f670.o u91; have u92 : rv M629 o0 19 = 0 := (by omega); have := f641.o u92; have := f642.o u92; have u93 : rv M594 o0 19 = 0 := (by omega); have := f610.o u93; have := f611.o u93; exact rG.step yG yR E710 w9 K713 (by have := yR.2 6 _ _ rfl 44; omega) (by have := R695.1 15 _ _ rfl; have := R695.1 16 _ _ rfl; have := R695.1 19 _ _ rfl; omega) (by have := R695.1 15 _ _ rfl; have := R695.1 16 _ _ rfl; have := R695.1 19 _ _ rfl; omega) (fun h9 => by exfalso; have := R695.1 15 _ _ rfl; have := R695.1 16 _ _ rfl; have := R695.1 19 _ _ rfl; omega) (fun h9 => (by have := R695.1 15 _ _ rfl; have := R695.1 16 _ _ rfl; have := R695.1 19 _ _ rfl; omega)) (by have := R695.1 15 _ _ rfl; have := R695.1 16 _ _ rfl; have := R695.1 19 _ _ rfl; omega) K714)), (rO.of E710 K713 (by have := yR.2 6 _ _ rfl 44; omega)), ⟨E710.2.1, fun w9 => by skip; have := E710.w2 w9; omega⟩, (fun w9 => by have u91 : rv M659 o0 19 = 0 := (by omega); have := f669.o u91; have := f670.o u91; have u92 : rv M629 o0 19 = 0 := (by omega); have := f641.o u92; have := f642.o u92; have u93 : rv M594 o0 19 = 0 := (by omega); have := f610.o u93; have := f611.o u93; omega), (fun h9 _ => absurd h9 (f16.o (by have := R695.1 15 _ _ rfl; have := R695.1 16 _ _ rfl; have := R695.1 19 _ _ rfl; omega))), (by have := R695.1 15 _ _ rfl; have := R695.1 16 _ _ rfl; have := R695.1 19 _ _ rfl; omega), (by first | (have := pW0 (Im.o d31) (by omega); have := Z930.wk; have := pW1 (Im.o d297) (by omega); have := pW1 (Im.o d367) (by omega); rw [show (p_cl pb pn pa (pc9, pN9, ps)).2 = s682 from (by unfold p_cl; unfold p_tru; (try simp only [e622, e655, e683]); ((repeat' (first | (with_reducible rfl) | split)) <;> (first | ((try simp only [e622, e655, e683]); done) | ((try simp only [e622, e655, e683]); first | exact p_sg_Z _ (by omega) | omega) | (exfalso; omega))))]; exact Z9716) | (exfalso; have := R695.1 15 _ _ rfl; have := R695.1 16 _ _ rfl; have := R695.1 19 _ _ rfl; omega)), (fun w9 => by have u91 : rv M659 o0 19 = 0 := (by omega); have := f669.o u91; have := f670.o u91; have u92 : rv M629 o0 19 = 0 := (by omega); have := f641.o u92; have := f642.o u92; have u93 : rv M594 o0 19 = 0 := (by omega); have := f610.o u93; have := f611.o u93; omega), (fun w9 => by have u91 : rv M659 o0 19 = 0 := (by omega); have := f669.o u91; have := f670.o u91; have u92 : rv M629 o0 19 = 0 := (by omega); have := f641.o u92; have := f642.o u92; have u93 : rv M594 o0 19 = 0 := (by omega); have := f610.o u93; have := f611.o u93; have := pW0 (Im.o d31) (by omega); have := Z930.wk; have := pW1 (Im.o d297) (by omega); have := pW1 (Im.o d367) (by omega); have e9 : (p_cl pb pn pa (pc9, pN9, ps)).1 = pN9 := (by unfold p_cl; (repeat' split) <;> first | rfl | (exfalso; omega)); rw [e9]; exact K715)⟩
    · refine mv_aload_n d_TrustDeskModel_readClause_22 rfl rfl ?_
      refine mv_ldcSw (id := 44) (tx := "trust") d_TrustDeskModel_readClause_23 (List.mem_of_getElem? (i := 34) rfl) ?_
      obtain ⟨_, b723, -⟩ := I274.1 _ _ t283
      refine mv_callV (kc' := 0) (ks' := 0) (As := [.ref 44]) (st9 := [.ref 44, .ref o0]) d_TrustDeskModel_readClause_26 lV_TrustDeskModel_244 b723 rfl (tc_TrustDeskModel_isWord_s1_44_x (d := (d + 21)) (x9 := x9) (o0 := o0) t283 R279 I274.start) rfl (Nat.le_of_ble_eq_true rfl) (Nat.le_of_ble_eq_true rfl) (Nat.le_of_ble_eq_true rfl) (hst := rfl) (fun b717r M718 n719 b717 => ?_)
      obtain ⟨T720, J721, v724, rfl, b725, b726, R727, f728, f729, f730⟩ := b717
      have I722 := I274.call J721 (tm_sub (by decide)) (Or.inl rfl)
      have t731 := J721.up t283
      replace f728 := Im.i f728
      replace f729 := Im.i f729
      replace f730 := Im.i f730
      have z732 := (rv_c I274 J721 (I274.up h_o0) (k := 15) rfl).trans z284
      have z733 := (rv_c I274 J721 (I274.up h_o0) (k := 16) rfl).trans z285
      have z734 := (rv_c I274 J721 (I274.up h_o0) (k := 17) rfl).trans z286
      have z735 := (rv_c I274 J721 (I274.up h_o0) (k := 19) rfl).trans z287
      have z736 := (rv_c I274 J721 (I274.up h_o0) (k := 22) rfl).trans z288
      have z737 := (rv_c I274 J721 (I274.up h_o0) (k := 24) rfl).trans z289
      have z738 := (ra_call I274 J721 (I274.up h_o0) (k := 5) rfl rfl rfl 44).trans z290
      have z739 := (ra_call I274 J721 (I274.up h_o0) (k := 6) rfl rfl rfl 44).trans z291
      have E740 : rE M0 M718 o0 0 0 := E292.same (rE_hv I274 J721 (I274.up h_o0) 15 19 (by decide)) (rE_ha I274 J721 (I274.up h_o0) (by decide))
      have K741 : rK M0 M718 o0 ((880 + ra M0 o0 6 44).toNat) := K293.same (sA_c I274 J721 (I274.up h_o0) (by decide +kernel))
      have K742 : nN M718 o0 := K294.same (sA_c I274 J721 (I274.up h_o0) (by decide +kernel)) (sF_c I274 J721 (I274.up h_o0) (by decide +kernel))
      have K743 : pN M718 o0 pn pN9 := K295.same (sA_c I274 J721 (I274.up h_o0) (by decide +kernel)) (sF_c I274 J721 (I274.up h_o0) (by decide +kernel))
      have Z9744 : pO M718 o0 pb pn pa ps := Z9296.same (rE_hv I274 J721 (I274.up h_o0) 14 20 (by decide)) (rv_c I274 J721 (I274.up h_o0) (k := 23) rfl) (ra_call I274 J721 (I274.up h_o0) (k := 13) rfl rfl rfl)
      have d745 := Im.i (pO.w_25 Z9296 (by have := R279.1 15 _ _ rfl; have := R279.1 16 _ _ rfl; have := R279.1 19 _ _ rfl; omega) (Im.o f729) (Im.o f730) (by have := R279.1 15 _ _ rfl; have := R279.1 16 _ _ rfl; have := R279.1 19 _ _ rfl; omega))
      clear z288 z289 z290 z291
      have := mz_hi v724
      refine mv_if_neZ (tgt := 40) (a := v724.toInt) d_TrustDeskModel_readClause_29 (by decide) rfl (fun b746 => ?_) (fun b746 => ?_)
      · refine mv_aload_n d_TrustDeskModel_readClause_40 rfl rfl ?_
        obtain ⟨a748, q747, t_a748⟩ := tm_atR I722 t731 (k := 6) rfl
        refine tr_getK q747 d_TrustDeskModel_readClause_41 f_TrustDeskModel_23_13 ?_
        refine mv_bipush (v := 44) d_TrustDeskModel_readClause_44 (by decide) ?_
        refine tr_ialdR (o := o0) (k := 6) I722 q747 t_a748 (by decide) d_TrustDeskModel_readClause_46 (by unfold vp_in; decide) (fun v749 e750 => ?_)
        have := R727.a (k := 6) rfl (44 : Int32).toNatClampNeg
        have : v749.toInt = ra M718 o0 6 44 := e750
        have : v749.toInt = _ := Eq.trans e750 z739
        refine mv_bipush (v := 12) d_TrustDeskModel_readClause_47 (by decide) ?_
        have := mz_hi v749
        refine mv_icmp_eqZ (tgt := 65) (a := v749.toInt) (b := 12) d_TrustDeskModel_readClause_49 (by decide) rfl (by decide) (fun b751 => ?_) (fun b751 => ?_)
        · refine mv_aload_n d_TrustDeskModel_readClause_65 rfl rfl ?_
          refine mv_iconst (v := 4) d_TrustDeskModel_readClause_66 (by decide) ?_
          obtain ⟨_, b758, -⟩ := I722.1 _ _ t731
          have : (4 : Int32).toInt = 4 := by decide
          refine mv_callV (kc' := 0) (ks' := 0) (As := [.int 4]) (st9 := [.int 4, .ref o0]) d_TrustDeskModel_readClause_67 lV_TrustDeskModel_240 b758 rfl (tc_TrustDeskModel_fails_x (d := (d + 25)) (x9 := x9) (o0 := o0) (x1 := 4) t731 R727 (by decide) Z9744 I722.start) rfl (Nat.le_of_ble_eq_true rfl) (Nat.le_of_ble_eq_true rfl) (Nat.le_of_ble_eq_true rfl) (hst := rfl) (fun b752r M753 n754 b752 => ?_)
          obtain ⟨T755, J756, rfl, R759, f760, f761⟩ := b752
          have I757 := I722.call J756 (tm_sub (by decide)) (Or.inl rfl)
          have t762 := J756.up t731
          have z763 := (rv_c I722 J756 (I722.up h_o0) (k := 15) rfl).trans z732
          have z764 := (rv_c I722 J756 (I722.up h_o0) (k := 16) rfl).trans z733
          have z765 := (rv_c I722 J756 (I722.up h_o0) (k := 17) rfl).trans z734
          have z766 := (rv_c I722 J756 (I722.up h_o0) (k := 22) rfl).trans z736
          have z767 := (rv_c I722 J756 (I722.up h_o0) (k := 24) rfl).trans z737
          have z768 := (ra_call I722 J756 (I722.up h_o0) (k := 5) rfl rfl rfl 44).trans z738
          have z769 := (ra_call I722 J756 (I722.up h_o0) (k := 6) rfl rfl rfl 44).trans z739
          have E770 : rE M0 M753 o0 0 0 := E740.fails (rE_hv I722 J756 (I722.up h_o0) 15 18 (by decide)) (rE_ha I722 J756 (I722.up h_o0) (by decide)) f760 0 0
          have K771 : rK M0 M753 o0 ((880 + ra M0 o0 6 44).toNat) := K741.same (sA_c I722 J756 (I722.up h_o0) (by decide +kernel))
          have K772 : nN M753 o0 := K742.same (sA_c I722 J756 (I722.up h_o0) (by decide +kernel)) (sF_c I722 J756 (I722.up h_o0) (by decide +kernel))
          have K773 : pN M753 o0 pn pN9 := K743.same (sA_c I722 J756 (I722.up h_o0) (by decide +kernel)) (sF_c I722 J756 (I722.up h_o0) (by decide +kernel))
          rw [show (4 : Int32).toInt = 4 from by decide] at f761
          obtain ⟨s774, e775⟩ : ∃ s9 : p_S, p_fl pb pn 4 ps = s9 := ⟨_, rfl⟩
          rw [e775] at f761
          have := f761.w
          clear z732 z733 z734 z736 z737 z738 z739
          have q776 := J756.keep t731 (by decide) q747
          have t777 := J756.up t_a748
          refine mv_aload_n d_TrustDeskModel_readClause_70 rfl rfl ?_
          obtain ⟨_, b778, -⟩ := I757.1 _ _ t762
          refine mv_callV (kc1 := 0) (ks1 := 0) (kc' := 0) (ks' := 0) (As := []) (st9 := [.ref o0]) d_TrustDeskModel_readClause_71 lV_TrustDeskModel_230 b778 rfl (mj_enter (by decide) (Nat.le_of_ble_eq_true rfl) ?_) rfl (Nat.le_of_ble_eq_true rfl) (Nat.le_of_ble_eq_true rfl) (Nat.le_of_ble_eq_true rfl) (hst := rfl) (fun _ _ _ h => h)
          refine mv_aload_n d_TrustDeskModel_isWell_0 rfl rfl ?_
          obtain ⟨v780, q779⟩ := tm_atI I757 t762 (k := 19) rfl
          refine tr_getK q779 d_TrustDeskModel_isWell_1 f_TrustDeskModel_224_13 ?_
          have := R759.f (k := 19) q779 rfl
          have := tm_rv q779
          refine mv_if_neZ (tgt := 11) (a := v780.toInt) d_TrustDeskModel_isWell_4 (by decide) rfl (fun b781 => ?_) (fun b781 => ?_)
          · refine mv_iconst (v := 0) d_TrustDeskModel_isWell_11 (by decide) ?_
            refine mv_iret d_TrustDeskModel_isWell_12 rfl (by decide) ?_
            refine mv_if_ne_f (tgt := 78) d_TrustDeskModel_readClause_74 (by decide) (by decide) ?_
            exact mv_vret d_TrustDeskModel_readClause_77 rfl ⟨_, I757, rfl, R759, (rW.of E770.1 (fun h9 => by exfalso; skip; have := R759.1 15 _ _ rfl; have := R759.1 16 _ _ rfl; have := R759.1 19 _ _ rfl; omega) (fun h9 => by exfalso; skip; have := R759.1 15 _ _ rfl; have := R759.1 16 _ _ rfl; have := R759.1 19 _ _ rfl; omega)), (rO.of E770 K771 (by have := yR.2 6 _ _ rfl 44; omega)), ⟨E770.2.1, fun w9 => by skip; have := E770.w2 w9; omega⟩, (fun w9 => by skip; omega), (fun _ h9 => by exfalso; skip; have := R759.1 15 _ _ rfl; have := R759.1 16 _ _ rfl; have := R759.1 19 _ _ rfl; omega), (by have := R759.1 15 _ _ rfl; have := R759.1 16 _ _ rfl; have := R759.1 19 _ _ rfl; omega), (by first | (have := pW0 (Im.o d31) (by omega); have := Z930.wk; have := pW0 (Im.o d297) (by omega); have := pW1 (Im.o d745) (by omega); rw [show (p_cl pb pn pa (pc9, pN9, ps)).2 = s774 from (by unfold p_cl; unfold p_tru; (try simp only [e775]); ((repeat' (first | (with_reducible rfl) | split)) <;> (first | ((try simp only [e775]); done) | ((try simp only [e775]); first | exact p_sg_Z _ (by omega) | omega) | (exfalso; omega))))]; exact f761) | (exfalso; have := R759.1 15 _ _ rfl; have := R759.1 16 _ _ rfl; have := R759.1 19 _ _ rfl; omega)), (fun w9 => by skip; omega), (fun h9 => by exfalso; skip; have := R759.1 15 _ _ rfl; have := R759.1 16 _ _ rfl; have := R759.1 19 _ _ rfl; omega)⟩
          · exfalso
            have := R759.1 15 _ _ rfl; have := R759.1 16 _ _ rfl; have := R759.1 19 _ _ rfl; omega
        · refine mv_iload_n d_TrustDeskModel_readClause_52 rfl rfl ?_
          have := mz_hi v10
          refine mv_if_eqZ (tgt := 70) (a := v10.toInt) d_TrustDeskModel_readClause_53 (by decide) rfl (fun b782 => ?_) (fun b782 => absurd b782 (by omega))
          refine mv_aload_n d_TrustDeskModel_readClause_70 rfl rfl ?_
          obtain ⟨_, b783, -⟩ := I722.1 _ _ t731
          refine mv_callV (kc1 := 0) (ks1 := 0) (kc' := 0) (ks' := 0) (As := []) (st9 := [.ref o0]) d_TrustDeskModel_readClause_71 lV_TrustDeskModel_230 b783 rfl (mj_enter (by decide) (Nat.le_of_ble_eq_true rfl) ?_) rfl (Nat.le_of_ble_eq_true rfl) (Nat.le_of_ble_eq_true rfl) (Nat.le_of_ble_eq_true rfl) (hst := rfl) (fun _ _ _ h => h)
          refine mv_aload_n d_TrustDeskModel_isWell_0 rfl rfl ?_
          obtain ⟨v785, q784⟩ := tm_atI I722 t731 (k := 19) rfl
          refine tr_getK q784 d_TrustDeskModel_isWell_1 f_TrustDeskModel_224_13 ?_
          have := R727.f (k := 19) q784 rfl
          have := (tm_rv q784).symm.trans z735
          have := tm_rv q784
          have := mz_hi v785
          refine mv_if_neZ (tgt := 11) (a := v785.toInt) d_TrustDeskModel_isWell_4 (by decide) rfl (fun b786 => ?_) (fun b786 => ?_)
          · refine mv_iconst (v := 0) d_TrustDeskModel_isWell_11 (by decide) ?_
            refine mv_iret d_TrustDeskModel_isWell_12 rfl (by decide) ?_
            refine mv_if_ne_f (tgt := 78) d_TrustDeskModel_readClause_74 (by decide) (by decide) ?_
            exact mv_vret d_TrustDeskModel_readClause_77 rfl ⟨_, I722, rfl, R727, (rW.of E740.1 (E740.s yS (by decide)) (fun w9 => by skip; exact rG.step yG yR E740 w9 K741 (by have := yR.2 6 _ _ rfl 44; omega) (by have := R727.1 15 _ _ rfl; have := R727.1 16 _ _ rfl; have := R727.1 19 _ _ rfl; omega) (by have := R727.1 15 _ _ rfl; have := R727.1 16 _ _ rfl; have := R727.1 19 _ _ rfl; omega) (fun h9 => by exfalso; have := R727.1 15 _ _ rfl; have := R727.1 16 _ _ rfl; have := R727.1 19 _ _ rfl; omega) (fun h9 => (by have := R727.1 15 _ _ rfl; have := R727.1 16 _ _ rfl; have := R727.1 19 _ _ rfl; omega)) (by have := R727.1 15 _ _ rfl; have := R727.1 16 _ _ rfl; have := R727.1 19 _ _ rfl; omega) K742)), (rO.of E740 K741 (by have := yR.2 6 _ _ rfl 44; omega)), ⟨E740.2.1, fun w9 => by skip; have := E740.w2 w9; omega⟩, (fun w9 => by skip; omega), (fun _ h9 => absurd h9 (by have := R727.1 15 _ _ rfl; have := R727.1 16 _ _ rfl; have := R727.1 19 _ _ rfl; omega)), (by have := R727.1 15 _ _ rfl; have := R727.1 16 _ _ rfl; have := R727.1 19 _ _ rfl; omega), (by first | (have := pW0 (Im.o d31) (by omega); have := Z930.wk; have := pW0 (Im.o d297) (by omega); have := pW1 (Im.o d745) (by omega); rw [show (p_cl pb pn pa (pc9, pN9, ps)).2 = ps from (by unfold p_cl; unfold p_tru; (try simp only [eq_self]); ((repeat' (first | (with_reducible rfl) | split)) <;> (first | ((try simp only [eq_self]); done) | ((try simp only [eq_self]); first | exact p_sg_Z _ (by omega) | omega) | (exfalso; omega))))]; exact Z9744) | (exfalso; have := R727.1 15 _ _ rfl; have := R727.1 16 _ _ rfl; have := R727.1 19 _ _ rfl; omega)), (fun w9 => by skip; omega), (fun h9 => by exfalso; skip; have := R727.1 15 _ _ rfl; have := R727.1 16 _ _ rfl; have := R727.1 19 _ _ rfl; omega)⟩
          · refine mv_iconst (v := 1) d_TrustDeskModel_isWell_7 (by decide) ?_
            refine mv_goto (tgt := 12) d_TrustDeskModel_isWell_8 (by decide) ?_
            refine mv_iret d_TrustDeskModel_isWell_12 rfl (by decide) ?_
            refine mv_if_ne_t (tgt := 78) d_TrustDeskModel_readClause_74 (by decide) (by decide) ?_
            refine mv_aload_n d_TrustDeskModel_readClause_78 rfl rfl ?_
            refine mv_ldcSw (id := 43) (tx := "mark") d_TrustDeskModel_readClause_79 (List.mem_of_getElem? (i := 33) rfl) ?_
            obtain ⟨_, b793, -⟩ := I722.1 _ _ t731
            refine mv_callV (kc' := 0) (ks' := 0) (As := [.ref 43]) (st9 := [.ref 43, .ref o0]) d_TrustDeskModel_readClause_82 lV_TrustDeskModel_244 b793 rfl (tc_TrustDeskModel_isWord_s1_43_x (d := (d + 21)) (x9 := x9) (o0 := o0) t731 R727 I722.start) rfl (Nat.le_of_ble_eq_true rfl) (Nat.le_of_ble_eq_true rfl) (Nat.le_of_ble_eq_true rfl) (hst := rfl) (fun b787r M788 n789 b787 => ?_)
            obtain ⟨T790, J791, v794, rfl, b795, b796, R797, f798, f799, f800⟩ := b787
            have I792 := I722.call J791 (tm_sub (by decide)) (Or.inl rfl)
            have t801 := J791.up t731
            replace f798 := Im.i f798
            replace f799 := Im.i f799
            replace f800 := Im.i f800
            have z802 := (rv_c I722 J791 (I722.up h_o0) (k := 15) rfl).trans z732
            have z803 := (rv_c I722 J791 (I722.up h_o0) (k := 16) rfl).trans z733
            have z804 := (rv_c I722 J791 (I722.up h_o0) (k := 17) rfl).trans z734
            have z805 := (rv_c I722 J791 (I722.up h_o0) (k := 19) rfl).trans z735
            have z806 := (rv_c I722 J791 (I722.up h_o0) (k := 22) rfl).trans z736
            have z807 := (rv_c I722 J791 (I722.up h_o0) (k := 24) rfl).trans z737
            have z808 := (ra_call I722 J791 (I722.up h_o0) (k := 5) rfl rfl rfl 44).trans z738
            have z809 := (ra_call I722 J791 (I722.up h_o0) (k := 6) rfl rfl rfl 44).trans z739
            have E810 : rE M0 M788 o0 0 0 := E740.same (rE_hv I722 J791 (I722.up h_o0) 15 19 (by decide)) (rE_ha I722 J791 (I722.up h_o0) (by decide))
            have K811 : rK M0 M788 o0 ((880 + ra M0 o0 6 44).toNat) := K741.same (sA_c I722 J791 (I722.up h_o0) (by decide +kernel))
            have K812 : nN M788 o0 := K742.same (sA_c I722 J791 (I722.up h_o0) (by decide +kernel)) (sF_c I722 J791 (I722.up h_o0) (by decide +kernel))
            have K813 : pN M788 o0 pn pN9 := K743.same (sA_c I722 J791 (I722.up h_o0) (by decide +kernel)) (sF_c I722 J791 (I722.up h_o0) (by decide +kernel))
            have Z9814 : pO M788 o0 pb pn pa ps := Z9744.same (rE_hv I722 J791 (I722.up h_o0) 14 20 (by decide)) (rv_c I722 J791 (I722.up h_o0) (k := 23) rfl) (ra_call I722 J791 (I722.up h_o0) (k := 13) rfl rfl rfl)
            have d815 := Im.i (pO.w_24 Z9744 (by have := R727.1 15 _ _ rfl; have := R727.1 16 _ _ rfl; have := R727.1 19 _ _ rfl; omega) (Im.o f799) (Im.o f800) (by have := R727.1 15 _ _ rfl; have := R727.1 16 _ _ rfl; have := R727.1 19 _ _ rfl; omega))
            clear z736 z737 z738 z739
            have q816 := J791.keep t731 (by decide) q747
            have t817 := J791.up t_a748
            have q818 := J791.keep t731 (by decide) q784
            refine mv_istore_n (lv' := [(2, .int v794), (1, .int v10), (0, .ref o0)]) d_TrustDeskModel_readClause_85 rfl (by decide) rfl ?_
            refine mv_aload_n d_TrustDeskModel_readClause_86 rfl rfl ?_
            refine mv_iload_n d_TrustDeskModel_readClause_87 rfl rfl ?_
            have := mz_hi v10
            refine mv_if_eqZ (tgt := 96) (a := v10.toInt) d_TrustDeskModel_readClause_88 (by decide) rfl (fun b819 => ?_) (fun b819 => absurd b819 (by omega))
            refine mv_iload_n d_TrustDeskModel_readClause_96 rfl rfl ?_
            have := mz_hi v794
            refine mv_if_eqZ (tgt := 105) (a := v794.toInt) d_TrustDeskModel_readClause_97 (by decide) rfl (fun b820 => ?_) (fun b820 => ?_)
            · refine mv_bipush (v := 9) d_TrustDeskModel_readClause_105 (by decide) ?_
              obtain ⟨_, b827, -⟩ := I792.1 _ _ t801
              have : (9 : Int32).toInt = 9 := by decide
              refine mv_callV (kc' := 0) (ks' := 0) (As := [.int 9]) (st9 := [.int 9, .ref o0]) d_TrustDeskModel_readClause_107 lV_TrustDeskModel_342 b827 rfl (tc_TrustDeskModel_begin_x (d := (d + 23)) (x9 := x9) (o0 := o0) (x1 := 9) t801 R797 E810.1 (E810.s yS (by decide)) (by have := R797.1 15 _ _ rfl; have := R797.1 16 _ _ rfl; have := R797.1 19 _ _ rfl; omega) (by have := f798.o (by omega); omega) (by have := R797.1 15 _ _ rfl; have := R797.1 16 _ _ rfl; have := R797.1 19 _ _ rfl; omega) Z9814 I792.start) rfl (Nat.le_of_ble_eq_true rfl) (Nat.le_of_ble_eq_true rfl) (Nat.le_of_ble_eq_true rfl) (hst := rfl) (fun b821r M822 n823 b821 => ?_)
              obtain ⟨T824, J825, v828, rfl, R829, f830, f831, f832, f833, f834, f835, f836⟩ := b821
              have I826 := I792.call J825 (tm_sub (by decide)) (Or.inl rfl)
              have t837 := J825.up t801
              have := f830.2.1
              have f838 := Im.i f830.w.2
              have f839 := Im.i f830.w2
              have z840 := (rv_c I792 J825 (I792.up h_o0) (k := 19) rfl).trans z805
              have z841 := (rv_c I792 J825 (I792.up h_o0) (k := 22) rfl).trans z806
              have z842 := (rv_c I792 J825 (I792.up h_o0) (k := 24) rfl).trans z807
              have z843 := (ra_call I792 J825 (I792.up h_o0) (k := 5) rfl rfl rfl 44).trans z808
              have E844 : rE M0 M822 o0 0 1 := E810.trans f830 (by decide) (yR.2 5 _ _ rfl 44).1 (by decide) (by decide)
              have h845 : (880 + ra M788 o0 6 44).toNat = (880 + ra M0 o0 6 44).toNat := by omega
              rw [h845] at f833 f834 f835
              have K846 : rK M0 M822 o0 ((880 + ra M0 o0 6 44).toNat) := K811.trans f835
              have K847 : nN M822 o0 := K812.same (sA_c I792 J825 (I792.up h_o0) (by decide +kernel)) (sF_c I792 J825 (I792.up h_o0) (by decide +kernel))
              have K848 : pN M822 o0 pn pN9 := K813.same (sA_c I792 J825 (I792.up h_o0) (by decide +kernel)) (sF_c I792 J825 (I792.up h_o0) (by decide +kernel))
              obtain ⟨s849, e850⟩ : ∃ s9 : p_S, p_nx ps = s9 := ⟨_, rfl⟩
              rw [e850] at f836
              have := f836.w
              clear z806 z807
              have q851 := J825.keep t801 (by decide) q816
              have t852 := J825.up t817
              have q853 := J825.keep t801 (by decide) q818
              refine mv_istore_n (lv' := [(3, .int v828), (2, .int v794), (1, .int v10), (0, .ref o0)]) d_TrustDeskModel_readClause_110 rfl (by decide) rfl ?_
              refine mv_iload_n d_TrustDeskModel_readClause_111 rfl rfl ?_
              have := mz_hi v10
              refine mv_if_eqZ (tgt := 123) (a := v10.toInt) d_TrustDeskModel_readClause_112 (by decide) rfl (fun b854 => ?_) (fun b854 => absurd b854 (by omega))
              refine mv_iload_n d_TrustDeskModel_readClause_123 rfl rfl ?_
              have := mz_hi v794
              refine mv_if_eqZ (tgt := 135) (a := v794.toInt) d_TrustDeskModel_readClause_124 (by decide) rfl (fun b855 => ?_) (fun b855 => absurd b855 (by omega))
              refine mv_aload_n d_TrustDeskModel_readClause_135 rfl rfl ?_
              obtain ⟨a857, q856, t_a857⟩ := tm_atR I826 t837 (k := 8) rfl
              refine tr_getK q856 d_TrustDeskModel_readClause_136 f_TrustDeskModel_29_13 ?_
              refine mv_iload_n d_TrustDeskModel_readClause_139 rfl rfl ?_
              refine mv_aload_n d_TrustDeskModel_readClause_140 rfl rfl ?_
              refine mv_iconst (v := 1) d_TrustDeskModel_readClause_141 (by decide) ?_
              refine mv_bipush (v := 7) d_TrustDeskModel_readClause_142 (by decide) ?_
              obtain ⟨_, b864, -⟩ := I826.1 _ _ t837
              have : (1 : Int32).toInt = 1 := by decide
              have : (7 : Int32).toInt = 7 := by decide
              refine mv_callV (kc' := 0) (ks' := 0) (As := [.int 1, .int 7]) (st9 := [.int 7, .int 1, .ref o0, .int v828, .ref a857]) d_TrustDeskModel_readClause_144 lV_TrustDeskModel_317 b864 rfl (tc_TrustDeskModel_number_x (d := (d + 23)) (x9 := x9) (o0 := o0) (x1 := 1) (x2 := 7) t837 R829 E844.1 (E844.s yS (by decide)) f836 I826.start) rfl (Nat.le_of_ble_eq_true rfl) (Nat.le_of_ble_eq_true rfl) (Nat.le_of_ble_eq_true rfl) (hst := rfl) (fun b858r M859 n860 b858 => ?_)
              obtain ⟨T861, J862, v865, rfl, R866, f867, f868, f869, f870⟩ := b858
              have I863 := I826.call J862 (tm_sub (by decide)) (Or.inl rfl)
              have t871 := J862.up t837
              have t872 := J862.up t_a857
              have := f867.2.1
              have f873 := Im.i f867.w.2
              have f874 := Im.i f867.w2
              replace f870 := Im.i f870
              have z875 := (rv_c I826 J862 (I826.up h_o0) (k := 22) rfl).trans z841
              have z876 := (rv_c I826 J862 (I826.up h_o0) (k := 24) rfl).trans z842
              have z877 := (ra_call I826 J862 (I826.up h_o0) (k := 5) rfl rfl rfl 44).trans z843
              have z878 := (ra_call I826 J862 (I826.up h_o0) (k := 6) rfl rfl rfl 44)
              have z879 := (ra_call I826 J862 (I826.up h_o0) (k := 7) rfl rfl rfl ((880 + ra M0 o0 6 44).toNat))
              have z880 := (ra_call I826 J862 (I826.up h_o0) (k := 10) rfl rfl rfl ((880 + ra M0 o0 6 44).toNat))
              have E881 : rE M0 M859 o0 0 2 := E844.trans f867 (by decide) (yR.2 5 _ _ rfl 44).1 (by decide) (by decide)
              have K882 : rK M0 M859 o0 ((880 + ra M0 o0 6 44).toNat) := K846.same (sA_c I826 J862 (I826.up h_o0) (by decide +kernel))
              have K883 : nN M859 o0 := K847.same (sA_c I826 J862 (I826.up h_o0) (by decide +kernel)) (sF_c I826 J862 (I826.up h_o0) (by decide +kernel))
              have K884 : pN M859 o0 pn pN9 := K848.same (sA_c I826 J862 (I826.up h_o0) (by decide +kernel)) (sF_c I826 J862 (I826.up h_o0) (by decide +kernel))
              rw [show (1 : Int32).toInt = 1 from by decide] at f869
              rw [show (7 : Int32).toInt = 7 from by decide] at f869
              obtain ⟨s885, e886⟩ : ∃ s9 : p_S, p_num pb pn 1 7 s849 = s9 := ⟨_, rfl⟩
              rw [e886] at f869
              have := f869.w
              clear z841 z842 z843
              have q887 := J862.keep t837 (by decide) q851
              have t888 := J862.up t852
              have q889 := J862.keep t837 (by decide) q856
              refine tr_iastR (k := 8) I863 R866 (I863.up h_o0) q889 t872 (by decide) (by decide) (fun lo hi h => by cases h; have := R866.1 15 _ _ rfl; have := R866.1 16 _ _ rfl; have := R866.1 19 _ _ rfl; exact ⟨by show ((-1) : Int) ≤ v865.toInt; omega, by show v865.toInt ≤ (720 : Int); omega⟩) (Or.inl (by decide)) d_TrustDeskModel_readClause_147 (vp_in_iff.mpr (by have := R866.1 15 _ _ rfl; have := R866.1 16 _ _ rfl; have := R866.1 19 _ _ rfl; omega)) (fun M890 I891 K892 R893 E894 A895 V896 => ?_)
              have z897 := (V896 15)
              have z898 := (V896 16)
              have z899 := (V896 17)
              have z900 := (V896 19)
              have z901 := (V896 22).trans z875
              have z902 := (V896 24).trans z876
              have z903 := (A895 5 (by decide) rfl 44).trans z877
              have z904 := (A895 6 (by decide) rfl 44).trans z878
              have z905 := (A895 7 (by decide) rfl ((880 + ra M0 o0 6 44).toNat)).trans z879
              have z906 := (A895 10 (by decide) rfl ((880 + ra M0 o0 6 44).toNat)).trans z880
              have E907 : rE M0 M890 o0 0 2 := E881.same (fun k _ _ => V896 k) (fun k h1 h2 => A895 k (by omega) (by rcases (show k = 4 ∨ k = 5 by omega) with rfl | rfl <;> rfl))
              have h908 : (880 + ra M0 o0 6 44).toNat = v828.toNatClampNeg := by have := mz_nat9 (i := v828) (by have := R866.1 15 _ _ rfl; have := R866.1 16 _ _ rfl; have := R866.1 19 _ _ rfl; omega); have := R866.1 15 _ _ rfl; have := R866.1 16 _ _ rfl; have := R866.1 19 _ _ rfl; omega
              have z909 : ra M890 o0 8 ((880 + ra M0 o0 6 44).toNat) = v865.toInt := (E894 _).trans (if_pos h908)
              have K910 : rK M0 M890 o0 ((880 + ra M0 o0 6 44).toNat) := K882.st A895 E894 (by have := mz_nat9 (i := v828) (by have := R866.1 15 _ _ rfl; have := R866.1 16 _ _ rfl; have := R866.1 19 _ _ rfl; omega); have := R866.1 15 _ _ rfl; have := R866.1 16 _ _ rfl; have := R866.1 19 _ _ rfl; omega)
              have K911 : nN M890 o0 := K883.same (sA_a A895 (by decide +kernel)) (sF_a V896)
              have K912 : pN M890 o0 pn pN9 := K884.same (sA_a A895 (by decide +kernel)) (sF_a V896)
              have Z9913 : pO M890 o0 pb pn pa s885 := f869.same (fun k _ _ => V896 k) (V896 23) (A895 13 (by decide) rfl)
              clear z875 z876 z877 z878 z879 z880
              refine mv_aload_n d_TrustDeskModel_readClause_148 rfl rfl ?_
              obtain ⟨a915, q914, t_a915⟩ := tm_atR I891 t871 (k := 9) rfl
              refine tr_getK q914 d_TrustDeskModel_readClause_149 f_TrustDeskModel_32_13 ?_
              refine mv_iload_n d_TrustDeskModel_readClause_152 rfl rfl ?_
              refine mv_aload_n d_TrustDeskModel_readClause_153 rfl rfl ?_
              refine mv_iconst (v := 1) d_TrustDeskModel_readClause_154 (by decide) ?_
              refine mv_aload_n d_TrustDeskModel_readClause_155 rfl rfl ?_
              refine tr_getK (k := 8) (K892 _ 13 8 _ q889) d_TrustDeskModel_readClause_156 f_TrustDeskModel_29_13 ?_
              refine mv_iload_n d_TrustDeskModel_readClause_159 rfl rfl ?_
              refine tr_ialdR (o := o0) (k := 8) I891 (K892 _ 13 8 _ q889) t872 (by decide) d_TrustDeskModel_readClause_160 (vp_in_iff.mpr (by have := R893.1 15 _ _ rfl; have := R893.1 16 _ _ rfl; have := R893.1 19 _ _ rfl; omega)) (fun v916 e917 => ?_)
              have := R893.a (k := 8) rfl (v828 : Int32).toNatClampNeg
              have h918 : (880 + ra M0 o0 6 44).toNat = v828.toNatClampNeg := by have := mz_nat9 (i := v828) (by have := R893.1 15 _ _ rfl; have := R893.1 16 _ _ rfl; have := R893.1 19 _ _ rfl; omega); have := R893.1 15 _ _ rfl; have := R893.1 16 _ _ rfl; have := R893.1 19 _ _ rfl; omega
              have z919 : v916.toInt = ra M890 o0 8 ((880 + ra M0 o0 6 44).toNat) := by rw [e917, h918]
              have : v916.toInt = _ := Eq.trans z919 z909
              obtain ⟨_, b926, -⟩ := I891.1 _ _ t871
              have : (1 : Int32).toInt = 1 := by decide
              refine mv_callV (kc' := 0) (ks' := 0) (As := [.int 1, .int v916]) (st9 := [.int v916, .int 1, .ref o0, .int v828, .ref a915]) d_TrustDeskModel_readClause_161 lV_TrustDeskModel_317 b926 rfl (tc_TrustDeskModel_number_x (d := (d + 23)) (x9 := x9) (o0 := o0) (x1 := 1) (x2 := v916) t871 R893 E907.1 (E907.s yS (by decide)) Z9913 I891.start) rfl (Nat.le_of_ble_eq_true rfl) (Nat.le_of_ble_eq_true rfl) (Nat.le_of_ble_eq_true rfl) (hst := rfl) (fun b920r M921 n922 b920 => ?_)
              obtain ⟨T923, J924, v927, rfl, R928, f929, f930, f931, f932⟩ := b920
              have I925 := I891.call J924 (tm_sub (by decide)) (Or.inl rfl)
              have t933 := J924.up t871
              have t934 := J924.up t_a915
              have := f929.2.1
              have f935 := Im.i f929.w.2
              have f936 := Im.i f929.w2
              replace f932 := Im.i f932
              have z937 := (rv_c I891 J924 (I891.up h_o0) (k := 22) rfl).trans z901
              have z938 := (rv_c I891 J924 (I891.up h_o0) (k := 24) rfl).trans z902
              have z939 := (ra_call I891 J924 (I891.up h_o0) (k := 5) rfl rfl rfl 44).trans z903
              have z940 := (ra_call I891 J924 (I891.up h_o0) (k := 6) rfl rfl rfl 44).trans z904
              have z941 := (ra_call I891 J924 (I891.up h_o0) (k := 7) rfl rfl rfl ((880 + ra M0 o0 6 44).toNat)).trans z905
              have z942 := (ra_call I891 J924 (I891.up h_o0) (k := 10) rfl rfl rfl ((880 + ra M0 o0 6 44).toNat)).trans z906
              have z943 := (ra_call I891 J924 (I891.up h_o0) (k := 8) rfl rfl rfl ((880 + ra M0 o0 6 44).toNat)).trans z909
              have E944 : rE M0 M921 o0 0 3 := E907.trans f929 (by decide) (yR.2 5 _ _ rfl 44).1 (by decide) (by decide)
              have K945 : rK M0 M921 o0 ((880 + ra M0 o0 6 44).toNat) := K910.same (sA_c I891 J924 (I891.up h_o0) (by decide +kernel))
              have K946 : nN M921 o0 := K911.same (sA_c I891 J924 (I891.up h_o0) (by decide +kernel)) (sF_c I891 J924 (I891.up h_o0) (by decide +kernel))
              have K947 : pN M921 o0 pn pN9 := K912.same (sA_c I891 J924 (I891.up h_o0) (by decide +kernel)) (sF_c I891 J924 (I891.up h_o0) (by decide +kernel))
              rw [show (1 : Int32).toInt = 1 from by decide] at f931
              obtain ⟨s948, e949⟩ : ∃ s9 : p_S, p_num pb pn 1 v916.toInt s885 = s9 := ⟨_, rfl⟩
              rw [e949] at f931
              have := f931.w
              clear z901 z902 z903 z904 z905 z906 z909
              have q950 := J924.keep t871 (by decide) (K892 _ 13 6 _ q887)
              have t951 := J924.up t888
              have q952 := J924.keep t871 (by decide) (K892 _ 13 8 _ q889)
              have t953 := J924.up t872
              have q954 := J924.keep t871 (by decide) q914
              refine tr_iastR (k := 9) I925 R928 (I925.up h_o0) q954 t934 (by decide) (by decide) (fun lo hi h => by cases h) (Or.inl (by decide)) d_TrustDeskModel_readClause_164 (vp_in_iff.mpr (by have := R928.1 15 _ _ rfl; have := R928.1 16 _ _ rfl; have := R928.1 19 _ _ rfl; omega)) (fun M955 I956 K957 R958 E959 A960 V961 => ?_)
              have z962 := (V961 15)
              have z963 := (V961 16)
              have z964 := (V961 17)
              have z965 := (V961 19)
              have z966 := (V961 22).trans z937
              have z967 := (V961 24).trans z938
              have z968 := (A960 5 (by decide) rfl 44).trans z939
              have z969 := (A960 6 (by decide) rfl 44).trans z940
              have z970 := (A960 7 (by decide) rfl ((880 + ra M0 o0 6 44).toNat)).trans z941
              have z971 := (A960 10 (by decide) rfl ((880 + ra M0 o0 6 44).toNat)).trans z942
              have z972 := (A960 8 (by decide) rfl ((880 + ra M0 o0 6 44).toNat)).trans z943
              have E973 : rE M0 M955 o0 0 3 := E944.same (fun k _ _ => V961 k) (fun k h1 h2 => A960 k (by omega) (by rcases (show k = 4 ∨ k = 5 by omega) with rfl | rfl <;> rfl))
              have K974 : rK M0 M955 o0 ((880 + ra M0 o0 6 44).toNat) := K945.same (sA_a A960 (by decide +kernel))
              have K975 : nN M955 o0 := K946.same (sA_a A960 (by decide +kernel)) (sF_a V961)
              have K976 : pN M955 o0 pn pN9 := K947.same (sA_a A960 (by decide +kernel)) (sF_a V961)
              have Z9977 : pO M955 o0 pb pn pa s948 := f931.same (fun k _ _ => V961 k) (V961 23) (A960 13 (by decide) rfl)
              clear z937 z938 z939 z940 z941 z942 z943
              refine mv_aload_n d_TrustDeskModel_readClause_165 rfl rfl ?_
              refine mv_bipush (v := 59) d_TrustDeskModel_readClause_166 (by decide) ?_
              obtain ⟨_, b984, -⟩ := I956.1 _ _ t933
              have : (59 : Int32).toInt = 59 := by decide
              refine mv_callV (kc' := 0) (ks' := 0) (As := [.int 59]) (st9 := [.int 59, .ref o0]) d_TrustDeskModel_readClause_168 lV_TrustDeskModel_291 b984 rfl (tc_TrustDeskModel_wantSign_x (d := (d + 23)) (x9 := x9) (o0 := o0) (x1 := 59) t933 R958 E973.1 (E973.s yS (by decide)) (by decide) Z9977 I956.start) rfl (Nat.le_of_ble_eq_true rfl) (Nat.le_of_ble_eq_true rfl) (Nat.le_of_ble_eq_true rfl) (hst := rfl) (fun b978r M979 n980 b978 => ?_)
              obtain ⟨T981, J982, rfl, R985, f986, f987⟩ := b978
              have I983 := I956.call J982 (tm_sub (by decide)) (Or.inl rfl)
              have t988 := J982.up t933
              have := f986.2.1
              have f989 := Im.i f986.w.2
              have f990 := Im.i f986.w2
              have z991 := (rv_c I956 J982 (I956.up h_o0) (k := 22) rfl).trans z966
              have z992 := (rv_c I956 J982 (I956.up h_o0) (k := 24) rfl).trans z967
              have z993 := (ra_call I956 J982 (I956.up h_o0) (k := 5) rfl rfl rfl 44).trans z968
              have z994 := (ra_call I956 J982 (I956.up h_o0) (k := 6) rfl rfl rfl 44).trans z969
              have z995 := (ra_call I956 J982 (I956.up h_o0) (k := 7) rfl rfl rfl ((880 + ra M0 o0 6 44).toNat)).trans z970
              have z996 := (ra_call I956 J982 (I956.up h_o0) (k := 10) rfl rfl rfl ((880 + ra M0 o0 6 44).toNat)).trans z971
              have z997 := (ra_call I956 J982 (I956.up h_o0) (k := 8) rfl rfl rfl ((880 + ra M0 o0 6 44).toNat)).trans z972
              have E998 : rE M0 M979 o0 0 4 := E973.trans f986 (by decide) (yR.2 5 _ _ rfl 44).1 (by decide) (by decide)
              have K999 : rK M0 M979 o0 ((880 + ra M0 o0 6 44).toNat) := K974.same (sA_c I956 J982 (I956.up h_o0) (by decide +kernel))
              have K1000 : nN M979 o0 := K975.same (sA_c I956 J982 (I956.up h_o0) (by decide +kernel)) (sF_c I956 J982 (I956.up h_o0) (by decide +kernel))
              have K1001 : pN M979 o0 pn pN9 := K976.same (sA_c I956 J982 (I956.up h_o0) (by decide +kernel)) (sF_c I956 J982 (I956.up h_o0) (by decide +kernel))
              rw [show (59 : Int32).toInt = 59 from by decide] at f987
              obtain ⟨s1002, e1003⟩ : ∃ s9 : p_S, p_sg pb pn 59 s948 = s9 := ⟨_, rfl⟩
              rw [e1003] at f987
              have := f987.w
              clear z966 z967 z968 z969 z970 z971 z972
              have q1004 := J982.keep t933 (by decide) (K957 _ 13 6 _ q950)
              have t1005 := J982.up t951
              have q1006 := J982.keep t933 (by decide) (K957 _ 13 8 _ q952)
              have t1007 := J982.up t953
              have q1008 := J982.keep t933 (by decide) (K957 _ 13 9 _ q954)
              have t1009 := J982.up t934
              refine mv_aload_n d_TrustDeskModel_readClause_171 rfl rfl ?_
              obtain ⟨a1011, q1010, t_a1011⟩ := tm_atR I983 t988 (k := 12) rfl
              refine tr_getK q1010 d_TrustDeskModel_readClause_172 f_TrustDeskModel_41_13 ?_
              refine mv_iload_n d_TrustDeskModel_readClause_175 rfl rfl ?_
              refine mv_aload_n d_TrustDeskModel_readClause_176 rfl rfl ?_
              obtain ⟨a1013, q1012, t_a1013⟩ := tm_atR I983 t988 (k := 5) rfl
              refine tr_getK q1012 d_TrustDeskModel_readClause_177 f_TrustDeskModel_20_13 ?_
              refine mv_bipush (v := 44) d_TrustDeskModel_readClause_180 (by decide) ?_
              refine tr_ialdR (o := o0) (k := 5) I983 q1012 t_a1013 (by decide) d_TrustDeskModel_readClause_182 (by unfold vp_in; decide) (fun v1014 e1015 => ?_)
              have := R985.a (k := 5) rfl (44 : Int32).toNatClampNeg
              have : v1014.toInt = ra M979 o0 5 44 := e1015
              have : v1014.toInt = _ := Eq.trans e1015 z993
              refine tr_iastR (k := 12) I983 R985 (I983.up h_o0) q1010 t_a1011 (by decide) (by decide) (fun lo hi h => by cases h; have := R985.1 15 _ _ rfl; have := R985.1 16 _ _ rfl; have := R985.1 19 _ _ rfl; exact ⟨by show (0 : Int) ≤ v1014.toInt; omega, by show v1014.toInt ≤ (400 : Int); omega⟩) (Or.inl (by decide)) d_TrustDeskModel_readClause_183 (vp_in_iff.mpr (by have := R985.1 15 _ _ rfl; have := R985.1 16 _ _ rfl; have := R985.1 19 _ _ rfl; omega)) (fun M1016 I1017 K1018 R1019 E1020 A1021 V1022 => ?_)
              have z1023 := (V1022 15)
              have z1024 := (V1022 16)
              have z1025 := (V1022 17)
              have z1026 := (V1022 19)
              have z1027 := (V1022 22).trans z991
              have z1028 := (V1022 24).trans z992
              have z1029 := (A1021 5 (by decide) rfl 44).trans z993
              have z1030 := (A1021 6 (by decide) rfl 44).trans z994
              have z1031 := (A1021 7 (by decide) rfl ((880 + ra M0 o0 6 44).toNat)).trans z995
              have z1032 := (A1021 10 (by decide) rfl ((880 + ra M0 o0 6 44).toNat)).trans z996
              have z1033 := (A1021 8 (by decide) rfl ((880 + ra M0 o0 6 44).toNat)).trans z997
              have E1034 : rE M0 M1016 o0 0 4 := E998.same (fun k _ _ => V1022 k) (fun k h1 h2 => A1021 k (by omega) (by rcases (show k = 4 ∨ k = 5 by omega) with rfl | rfl <;> rfl))
              have h1035 : (880 + ra M0 o0 6 44).toNat = v828.toNatClampNeg := by have := mz_nat9 (i := v828) (by have := R985.1 15 _ _ rfl; have := R985.1 16 _ _ rfl; have := R985.1 19 _ _ rfl; omega); have := R985.1 15 _ _ rfl; have := R985.1 16 _ _ rfl; have := R985.1 19 _ _ rfl; omega
              have z1036 : ra M1016 o0 12 ((880 + ra M0 o0 6 44).toNat) = v1014.toInt := (E1020 _).trans (if_pos h1035)
              have K1037 : rK M0 M1016 o0 ((880 + ra M0 o0 6 44).toNat) := K999.st A1021 E1020 (by have := mz_nat9 (i := v828) (by have := R985.1 15 _ _ rfl; have := R985.1 16 _ _ rfl; have := R985.1 19 _ _ rfl; omega); have := R985.1 15 _ _ rfl; have := R985.1 16 _ _ rfl; have := R985.1 19 _ _ rfl; omega)
              have K1038 : nN M1016 o0 := K1000.same (sA_a A1021 (by decide +kernel)) (sF_a V1022)
              have K1039 : pN M1016 o0 pn pN9 := K1001.same (sA_a A1021 (by decide +kernel)) (sF_a V1022)
              have Z91040 : pO M1016 o0 pb pn pa s1002 := f987.same (fun k _ _ => V1022 k) (V1022 23) (A1021 13 (by decide) rfl)
              clear z991 z992 z993 z994 z995 z996 z997
              exact mv_vret d_TrustDeskModel_readClause_184 rfl ⟨_, I1017, rfl, R1019, (rW.of E1034.1 (E1034.s yS (by decide)) (fun w9 => by have u91 : rv M979 o0 19 = 0 := (by omega); have := f989.o u91; have := f990.o u91; have u92 : rv M921 o0 19 = 0 := (by omega); have := f935.o u92; have := f936.o u92; have := f932.o u92; have u93 : rv M859 o0 19 = 0 := (by omega); have := f873.o u93; have := f874.o u93; have := f870.o u93; have u94 : rv M822 o0 19 = 0 := (by omega); have := f838.o u94; have := f839.o u94; exact rG.step yG yR E1034 w9 K1037 (by have := yR.2 6 _ _ rfl 44; omega) (by have := R1019.1 15 _ _ rfl; have := R1019.1 16 _ _ rfl; have := R1019.1 19 _ _ rfl; omega) (by have := R1019.1 15 _ _ rfl; have := R1019.1 16 _ _ rfl; have := R1019.1 19 _ _ rfl; omega) (fun h9 => by exfalso; have := R1019.1 15 _ _ rfl; have := R1019.1 16 _ _ rfl; have := R1019.1 19 _ _ rfl; omega) (fun h9 => (by have := R1019.1 15 _ _ rfl; have := R1019.1 16 _ _ rfl; have := R1019.1 19 _ _ rfl; omega)) (by have := R1019.1 15 _ _ rfl; have := R1019.1 16 _ _ rfl; have := R1019.1 19 _ _ rfl; omega) K1038)), (rO.of E1034 K1037 (by have := yR.2 6 _ _ rfl 44; omega)), ⟨E1034.2.1, fun w9 => by skip; have := E1034.w2 w9; omega⟩, (fun w9 => by have u91 : rv M979 o0 19 = 0 := (by omega); have := f989.o u91; have := f990.o u91; have u92 : rv M921 o0 19 = 0 := (by omega); have := f935.o u92; have := f936.o u92; have := f932.o u92; have u93 : rv M859 o0 19 = 0 := (by omega); have := f873.o u93; have := f874.o u93; have := f870.o u93; have u94 : rv M822 o0 19 = 0 := (by omega); have := f838.o u94; have := f839.o u94; omega), (fun h9 _ => absurd h9 (f16.o (by have := R1019.1 15 _ _ rfl; have := R1019.1 16 _ _ rfl; have := R1019.1 19 _ _ rfl; omega))), (by have := R1019.1 15 _ _ rfl; have := R1019.1 16 _ _ rfl; have := R1019.1 19 _ _ rfl; omega), (by first | (have := pW0 (Im.o d31) (by omega); have := Z930.wk; have := pW0 (Im.o d297) (by omega); have := pW1 (Im.o d745) (by omega); have := pW0 (Im.o d815) (by omega); rw [show (p_cl pb pn pa (pc9, pN9, ps)).2 = s1002 from (by unfold p_cl; unfold p_tru; (try simp only [e850, e886, e949, e1003]); ((repeat' (first | (with_reducible rfl) | split)) <;> (first | ((try simp only [e850, e886, e949, e1003]); done) | ((try simp only [e850, e886, e949, e1003]); first | exact p_sg_Z _ (by omega) | omega) | (exfalso; omega))))]; exact Z91040) | (exfalso; have := R1019.1 15 _ _ rfl; have := R1019.1 16 _ _ rfl; have := R1019.1 19 _ _ rfl; omega)), (fun w9 => by have u91 : rv M979 o0 19 = 0 := (by omega); have := f989.o u91; have := f990.o u91; have u92 : rv M921 o0 19 = 0 := (by omega); have := f935.o u92; have := f936.o u92; have := f932.o u92; have u93 : rv M859 o0 19 = 0 := (by omega); have := f873.o u93; have := f874.o u93; have := f870.o u93; have u94 : rv M822 o0 19 = 0 := (by omega); have := f838.o u94; have := f839.o u94; omega), (fun w9 => by have u91 : rv M979 o0 19 = 0 := (by omega); have := f989.o u91; have := f990.o u91; have u92 : rv M921 o0 19 = 0 := (by omega); have := f935.o u92; have := f936.o u92; have := f932.o u92; have u93 : rv M859 o0 19 = 0 := (by omega); have := f873.o u93; have := f874.o u93; have := f870.o u93; have u94 : rv M822 o0 19 = 0 := (by omega); have := f838.o u94; have := f839.o u94; have := pW0 (Im.o d31) (by omega); have := Z930.wk; have := pW0 (Im.o d297) (by omega); have := pW1 (Im.o d745) (by omega); have := pW0 (Im.o d815) (by omega); have e9 : (p_cl pb pn pa (pc9, pN9, ps)).1 = pN9 := (by unfold p_cl; (repeat' split) <;> first | rfl | (exfalso; omega)); rw [e9]; exact K1039)⟩
            · refine mv_bipush (v := 7) d_TrustDeskModel_readClause_100 (by decide) ?_
              refine mv_goto (tgt := 107) d_TrustDeskModel_readClause_102 (by decide) ?_
              obtain ⟨_, b1047, -⟩ := I792.1 _ _ t801
              have : (7 : Int32).toInt = 7 := by decide
              refine mv_callV (kc' := 0) (ks' := 0) (As := [.int 7]) (st9 := [.int 7, .ref o0]) d_TrustDeskModel_readClause_107 lV_TrustDeskModel_342 b1047 rfl (tc_TrustDeskModel_begin_x (d := (d + 23)) (x9 := x9) (o0 := o0) (x1 := 7) t801 R797 E810.1 (E810.s yS (by decide)) (by have := R797.1 15 _ _ rfl; have := R797.1 16 _ _ rfl; have := R797.1 19 _ _ rfl; omega) (by have := f798.o (by omega); omega) (by have := R797.1 15 _ _ rfl; have := R797.1 16 _ _ rfl; have := R797.1 19 _ _ rfl; omega) Z9814 I792.start) rfl (Nat.le_of_ble_eq_true rfl) (Nat.le_of_ble_eq_true rfl) (Nat.le_of_ble_eq_true rfl) (hst := rfl) (fun b1041r M1042 n1043 b1041 => ?_)
              obtain ⟨T1044, J1045, v1048, rfl, R1049, f1050, f1051, f1052, f1053, f1054, f1055, f1056⟩ := b1041
              have I1046 := I792.call J1045 (tm_sub (by decide)) (Or.inl rfl)
              have t1057 := J1045.up t801
              have := f1050.2.1
              have f1058 := Im.i f1050.w.2
              have f1059 := Im.i f1050.w2
              have z1060 := (rv_c I792 J1045 (I792.up h_o0) (k := 19) rfl).trans z805
              have z1061 := (rv_c I792 J1045 (I792.up h_o0) (k := 22) rfl).trans z806
              have z1062 := (rv_c I792 J1045 (I792.up h_o0) (k := 24) rfl).trans z807
              have z1063 := (ra_call I792 J1045 (I792.up h_o0) (k := 5) rfl rfl rfl 44).trans z808
              have E1064 : rE M0 M1042 o0 0 1 := E810.trans f1050 (by decide) (yR.2 5 _ _ rfl 44).1 (by decide) (by decide)
              have h1065 : (880 + ra M788 o0 6 44).toNat = (880 + ra M0 o0 6 44).toNat := by omega
              rw [h1065] at f1053 f1054 f1055
              have K1066 : rK M0 M1042 o0 ((880 + ra M0 o0 6 44).toNat) := K811.trans f1055
              have K1067 : nN M1042 o0 := K812.same (sA_c I792 J1045 (I792.up h_o0) (by decide +kernel)) (sF_c I792 J1045 (I792.up h_o0) (by decide +kernel))
              have K1068 : pN M1042 o0 pn pN9 := K813.same (sA_c I792 J1045 (I792.up h_o0) (by decide +kernel)) (sF_c I792 J1045 (I792.up h_o0) (by decide +kernel))
              obtain ⟨s1069, e1070⟩ : ∃ s9 : p_S, p_nx ps = s9 := ⟨_, rfl⟩
              rw [e1070] at f1056
              have := f1056.w
              clear z806 z807
              have q1071 := J1045.keep t801 (by decide) q816
              have t1072 := J1045.up t817
              have q1073 := J1045.keep t801 (by decide) q818
              refine mv_istore_n (lv' := [(3, .int v1048), (2, .int v794), (1, .int v10), (0, .ref o0)]) d_TrustDeskModel_readClause_110 rfl (by decide) rfl ?_
              refine mv_iload_n d_TrustDeskModel_readClause_111 rfl rfl ?_
              have := mz_hi v10
              refine mv_if_eqZ (tgt := 123) (a := v10.toInt) d_TrustDeskModel_readClause_112 (by decide) rfl (fun b1074 => ?_) (fun b1074 => absurd b1074 (by omega))
              refine mv_iload_n d_TrustDeskModel_readClause_123 rfl rfl ?_
              have := mz_hi v794
              refine mv_if_eqZ (tgt := 135) (a := v794.toInt) d_TrustDeskModel_readClause_124 (by decide) rfl (fun b1075 => absurd b1075 (by omega)) (fun b1075 => ?_)
              refine mv_aload_n d_TrustDeskModel_readClause_127 rfl rfl ?_
              refine mv_iload_n d_TrustDeskModel_readClause_128 rfl rfl ?_
              obtain ⟨_, b1082, -⟩ := I1046.1 _ _ t1057
              refine mv_callV (kc' := 0) (ks' := 0) (As := [.int v1048]) (st9 := [.int v1048, .ref o0]) d_TrustDeskModel_readClause_129 lV_TrustDeskModel_348 b1082 rfl (tc_TrustDeskModel_readMarks_x (d := (d + 22)) (x9 := x9) (o0 := o0) (x1 := v1048) t1057 R1049 E1064.1 (E1064.s yS (by decide)) (by have := R1049.1 15 _ _ rfl; have := R1049.1 16 _ _ rfl; have := R1049.1 19 _ _ rfl; omega) f1056 I1046.start) rfl (Nat.le_of_ble_eq_true rfl) (Nat.le_of_ble_eq_true rfl) (Nat.le_of_ble_eq_true rfl) (hst := rfl) (fun b1076r M1077 n1078 b1076 => ?_)
              obtain ⟨T1079, J1080, rfl, R1083, f1084, f1085, f1086, f1087⟩ := b1076
              have I1081 := I1046.call J1080 (tm_sub (by decide)) (Or.inl rfl)
              have t1088 := J1080.up t1057
              have := f1084.2.1
              have f1089 := Im.i f1084.w.2
              have f1090 := Im.i f1084.w2
              have z1091 := (rv_c I1046 J1080 (I1046.up h_o0) (k := 22) rfl).trans z1061
              have z1092 := (rv_c I1046 J1080 (I1046.up h_o0) (k := 24) rfl).trans z1062
              have z1093 := (ra_call I1046 J1080 (I1046.up h_o0) (k := 5) rfl rfl rfl 44).trans z1063
              have z1094 := (ra_call I1046 J1080 (I1046.up h_o0) (k := 6) rfl rfl rfl 44)
              have z1095 := (ra_call I1046 J1080 (I1046.up h_o0) (k := 7) rfl rfl rfl ((880 + ra M0 o0 6 44).toNat))
              have z1096 := (ra_call I1046 J1080 (I1046.up h_o0) (k := 10) rfl rfl rfl ((880 + ra M0 o0 6 44).toNat))
              have E1097 : rE M0 M1077 o0 0 1 := E1064.trans f1084 (by decide) (yR.2 5 _ _ rfl 44).1 (by decide) (by decide)
              have h1098 : v1048.toNatClampNeg = (880 + ra M0 o0 6 44).toNat := by have := mz_nat9 (i := v1048) (by have := R1049.1 15 _ _ rfl; have := R1049.1 16 _ _ rfl; have := R1049.1 19 _ _ rfl; omega); have := R1049.1 15 _ _ rfl; have := R1049.1 16 _ _ rfl; have := R1049.1 19 _ _ rfl; omega
              rw [h1098] at f1085 f1086
              have K1099 : rK M0 M1077 o0 ((880 + ra M0 o0 6 44).toNat) := K1066.one8 (sA_c I1046 J1080 (I1046.up h_o0) (by decide)) f1085
              have K1100 : nN M1077 o0 := K1067.same (sA_c I1046 J1080 (I1046.up h_o0) (by decide +kernel)) (sF_c I1046 J1080 (I1046.up h_o0) (by decide +kernel))
              have K1101 : pN M1077 o0 pn pN9 := K1068.same (sA_c I1046 J1080 (I1046.up h_o0) (by decide +kernel)) (sF_c I1046 J1080 (I1046.up h_o0) (by decide +kernel))
              obtain ⟨s1102, e1103⟩ : ∃ s9 : p_S, p_mar pb pn s1069 = s9 := ⟨_, rfl⟩
              rw [e1103] at f1087
              have := f1087.w
              clear z1061 z1062 z1063
              have q1104 := J1080.keep t1057 (by decide) q1071
              have t1105 := J1080.up t1072
              refine mv_goto (tgt := 165) d_TrustDeskModel_readClause_132 (by decide) ?_
              refine mv_aload_n d_TrustDeskModel_readClause_165 rfl rfl ?_
              refine mv_bipush (v := 59) d_TrustDeskModel_readClause_166 (by decide) ?_
              obtain ⟨_, b1112, -⟩ := I1081.1 _ _ t1088
              have : (59 : Int32).toInt = 59 := by decide
              refine mv_callV (kc' := 0) (ks' := 0) (As := [.int 59]) (st9 := [.int 59, .ref o0]) d_TrustDeskModel_readClause_168 lV_TrustDeskModel_291 b1112 rfl (tc_TrustDeskModel_wantSign_x (d := (d + 23)) (x9 := x9) (o0 := o0) (x1 := 59) t1088 R1083 E1097.1 (E1097.s yS (by decide)) (by decide) f1087 I1081.start) rfl (Nat.le_of_ble_eq_true rfl) (Nat.le_of_ble_eq_true rfl) (Nat.le_of_ble_eq_true rfl) (hst := rfl) (fun b1106r M1107 n1108 b1106 => ?_)
              obtain ⟨T1109, J1110, rfl, R1113, f1114, f1115⟩ := b1106
              have I1111 := I1081.call J1110 (tm_sub (by decide)) (Or.inl rfl)
              have t1116 := J1110.up t1088
              have := f1114.2.1
              have f1117 := Im.i f1114.w.2
              have f1118 := Im.i f1114.w2
              have z1119 := (rv_c I1081 J1110 (I1081.up h_o0) (k := 22) rfl).trans z1091
              have z1120 := (rv_c I1081 J1110 (I1081.up h_o0) (k := 24) rfl).trans z1092
              have z1121 := (ra_call I1081 J1110 (I1081.up h_o0) (k := 5) rfl rfl rfl 44).trans z1093
              have z1122 := (ra_call I1081 J1110 (I1081.up h_o0) (k := 6) rfl rfl rfl 44).trans z1094
              have z1123 := (ra_call I1081 J1110 (I1081.up h_o0) (k := 7) rfl rfl rfl ((880 + ra M0 o0 6 44).toNat)).trans z1095
              have z1124 := (ra_call I1081 J1110 (I1081.up h_o0) (k := 10) rfl rfl rfl ((880 + ra M0 o0 6 44).toNat)).trans z1096
              have z1125 := (ra_call I1081 J1110 (I1081.up h_o0) (k := 8) rfl rfl rfl ((880 + ra M0 o0 6 44).toNat))
              have E1126 : rE M0 M1107 o0 0 2 := E1097.trans f1114 (by decide) (yR.2 5 _ _ rfl 44).1 (by decide) (by decide)
              have K1127 : rK M0 M1107 o0 ((880 + ra M0 o0 6 44).toNat) := K1099.same (sA_c I1081 J1110 (I1081.up h_o0) (by decide +kernel))
              have K1128 : nN M1107 o0 := K1100.same (sA_c I1081 J1110 (I1081.up h_o0) (by decide +kernel)) (sF_c I1081 J1110 (I1081.up h_o0) (by decide +kernel))
              have K1129 : pN M1107 o0 pn pN9 := K1101.same (sA_c I1081 J1110 (I1081.up h_o0) (by decide +kernel)) (sF_c I1081 J1110 (I1081.up h_o0) (by decide +kernel))
              rw [show (59 : Int32).toInt = 59 from by decide] at f1115
              obtain ⟨s1130, e1131⟩ : ∃ s9 : p_S, p_sg pb pn 59 s1102 = s9 := ⟨_, rfl⟩
              rw [e1131] at f1115
              have := f1115.w
              clear z1091 z1092 z1093 z1094 z1095 z1096
              have q1132 := J1110.keep t1088 (by decide) q1104
              have t1133 := J1110.up t1105
              refine mv_aload_n d_TrustDeskModel_readClause_171 rfl rfl ?_
              obtain ⟨a1135, q1134, t_a1135⟩ := tm_atR I1111 t1116 (k := 12) rfl
              refine tr_getK q1134 d_TrustDeskModel_readClause_172 f_TrustDeskModel_41_13 ?_
              refine mv_iload_n d_TrustDeskModel_readClause_175 rfl rfl ?_
              refine mv_aload_n d_TrustDeskModel_readClause_176 rfl rfl ?_
              obtain ⟨a1137, q1136, t_a1137⟩ := tm_atR I1111 t1116 (k := 5) rfl
              refine tr_getK q1136 d_TrustDeskModel_readClause_177 f_TrustDeskModel_20_13 ?_
              refine mv_bipush (v := 44) d_TrustDeskModel_readClause_180 (by decide) ?_
              refine tr_ialdR (o := o0) (k := 5) I1111 q1136 t_a1137 (by decide) d_TrustDeskModel_readClause_182 (by unfold vp_in; decide) (fun v1138 e1139 => ?_)
              have := R1113.a (k := 5) rfl (44 : Int32).toNatClampNeg
              have : v1138.toInt = ra M1107 o0 5 44 := e1139
              have : v1138.toInt = _ := Eq.trans e1139 z1121
              refine tr_iastR (k := 12) I1111 R1113 (I1111.up h_o0) q1134 t_a1135 (by decide) (by decide) (fun lo hi h => by cases h; have := R1113.1 15 _ _ rfl; have := R1113.1 16 _ _ rfl; have := R1113.1 19 _ _ rfl; exact ⟨by show (0 : Int) ≤ v1138.toInt; omega, by show v1138.toInt ≤ (400 : Int); omega⟩) (Or.inl (by decide)) d_TrustDeskModel_readClause_183 (vp_in_iff.mpr (by have := R1113.1 15 _ _ rfl; have := R1113.1 16 _ _ rfl; have := R1113.1 19 _ _ rfl; omega)) (fun M1140 I1141 K1142 R1143 E1144 A1145 V1146 => ?_)
              have z1147 := (V1146 15)
              have z1148 := (V1146 16)
              have z1149 := (V1146 17)
              have z1150 := (V1146 19)
              have z1151 := (V1146 22).trans z1119
              have z1152 := (V1146 24).trans z1120
              have z1153 := (A1145 5 (by decide) rfl 44).trans z1121
              have z1154 := (A1145 6 (by decide) rfl 44).trans z1122
              have z1155 := (A1145 7 (by decide) rfl ((880 + ra M0 o0 6 44).toNat)).trans z1123
              have z1156 := (A1145 10 (by decide) rfl ((880 + ra M0 o0 6 44).toNat)).trans z1124
              have z1157 := (A1145 8 (by decide) rfl ((880 + ra M0 o0 6 44).toNat)).trans z1125
              have E1158 : rE M0 M1140 o0 0 2 := E1126.same (fun k _ _ => V1146 k) (fun k h1 h2 => A1145 k (by omega) (by rcases (show k = 4 ∨ k = 5 by omega) with rfl | rfl <;> rfl))
              have h1159 : (880 + ra M0 o0 6 44).toNat = v1048.toNatClampNeg := by have := mz_nat9 (i := v1048) (by have := R1113.1 15 _ _ rfl; have := R1113.1 16 _ _ rfl; have := R1113.1 19 _ _ rfl; omega); have := R1113.1 15 _ _ rfl; have := R1113.1 16 _ _ rfl; have := R1113.1 19 _ _ rfl; omega
              have z1160 : ra M1140 o0 12 ((880 + ra M0 o0 6 44).toNat) = v1138.toInt := (E1144 _).trans (if_pos h1159)
              have K1161 : rK M0 M1140 o0 ((880 + ra M0 o0 6 44).toNat) := K1127.st A1145 E1144 (by have := mz_nat9 (i := v1048) (by have := R1113.1 15 _ _ rfl; have := R1113.1 16 _ _ rfl; have := R1113.1 19 _ _ rfl; omega); have := R1113.1 15 _ _ rfl; have := R1113.1 16 _ _ rfl; have := R1113.1 19 _ _ rfl; omega)
              have K1162 : nN M1140 o0 := K1128.same (sA_a A1145 (by decide +kernel)) (sF_a V1146)
              have K1163 : pN M1140 o0 pn pN9 := K1129.same (sA_a A1145 (by decide +kernel)) (sF_a V1146)
              have Z91164 : pO M1140 o0 pb pn pa s1130 := f1115.same (fun k _ _ => V1146 k) (V1146 23) (A1145 13 (by decide) rfl)
              clear z1119 z1120 z1121 z1122 z1123 z1124 z1125
              exact mv_vret d_TrustDeskModel_readClause_184 rfl ⟨_, I1141, rfl, R1143, (rW.of E1158.1 (E1158.s yS (by decide)) (fun w9 => by have u91 : rv M1107 o0 19 = 0 := (by omega); have := f1117.o u91; have := f1118.o u91; have u92 : rv M1077 o0 19 = 0 := (by omega); have := f1089.o u92; have := f1090.o u92; have u93 : rv M1042 o0 19 = 0 := (by omega); have := f1058.o u93; have := f1059.o u93; exact rG.step yG yR E1158 w9 K1161 (by have := yR.2 6 _ _ rfl 44; omega) (by have := R1143.1 15 _ _ rfl; have := R1143.1 16 _ _ rfl; have := R1143.1 19 _ _ rfl; omega) (by have := R1143.1 15 _ _ rfl; have := R1143.1 16 _ _ rfl; have := R1143.1 19 _ _ rfl; omega) (fun h9 => by exfalso; have := R1143.1 15 _ _ rfl; have := R1143.1 16 _ _ rfl; have := R1143.1 19 _ _ rfl; omega) (fun h9 => (by have := R1143.1 15 _ _ rfl; have := R1143.1 16 _ _ rfl; have := R1143.1 19 _ _ rfl; omega)) (by have := R1143.1 15 _ _ rfl; have := R1143.1 16 _ _ rfl; have := R1143.1 19 _ _ rfl; omega) K1162)), (rO.of E1158 K1161 (by have := yR.2 6 _ _ rfl 44; omega)), ⟨E1158.2.1, fun w9 => by skip; have := E1158.w2 w9; omega⟩, (fun w9 => by have u91 : rv M1107 o0 19 = 0 := (by omega); have := f1117.o u91; have := f1118.o u91; have u92 : rv M1077 o0 19 = 0 := (by omega); have := f1089.o u92; have := f1090.o u92; have u93 : rv M1042 o0 19 = 0 := (by omega); have := f1058.o u93; have := f1059.o u93; omega), (fun h9 _ => absurd h9 (f16.o (by have := R1143.1 15 _ _ rfl; have := R1143.1 16 _ _ rfl; have := R1143.1 19 _ _ rfl; omega))), (by have := R1143.1 15 _ _ rfl; have := R1143.1 16 _ _ rfl; have := R1143.1 19 _ _ rfl; omega), (by first | (have := pW0 (Im.o d31) (by omega); have := Z930.wk; have := pW0 (Im.o d297) (by omega); have := pW1 (Im.o d745) (by omega); have := pW1 (Im.o d815) (by omega); rw [show (p_cl pb pn pa (pc9, pN9, ps)).2 = s1130 from (by unfold p_cl; unfold p_tru; (try simp only [e1070, e1103, e1131]); ((repeat' (first | (with_reducible rfl) | split)) <;> (first | ((try simp only [e1070, e1103, e1131]); done) | ((try simp only [e1070, e1103, e1131]); first | exact p_sg_Z _ (by omega) | omega) | (exfalso; omega))))]; exact Z91164) | (exfalso; have := R1143.1 15 _ _ rfl; have := R1143.1 16 _ _ rfl; have := R1143.1 19 _ _ rfl; omega)), (fun w9 => by have u91 : rv M1107 o0 19 = 0 := (by omega); have := f1117.o u91; have := f1118.o u91; have u92 : rv M1077 o0 19 = 0 := (by omega); have := f1089.o u92; have := f1090.o u92; have u93 : rv M1042 o0 19 = 0 := (by omega); have := f1058.o u93; have := f1059.o u93; omega), (fun w9 => by have u91 : rv M1107 o0 19 = 0 := (by omega); have := f1117.o u91; have := f1118.o u91; have u92 : rv M1077 o0 19 = 0 := (by omega); have := f1089.o u92; have := f1090.o u92; have u93 : rv M1042 o0 19 = 0 := (by omega); have := f1058.o u93; have := f1059.o u93; have := pW0 (Im.o d31) (by omega); have := Z930.wk; have := pW0 (Im.o d297) (by omega); have := pW1 (Im.o d745) (by omega); have := pW1 (Im.o d815) (by omega); have e9 : (p_cl pb pn pa (pc9, pN9, ps)).1 = pN9 := (by unfold p_cl; (repeat' split) <;> first | rfl | (exfalso; omega)); rw [e9]; exact K1163)⟩
      · refine mv_aload_n d_TrustDeskModel_readClause_32 rfl rfl ?_
        refine mv_iconst (v := 1) d_TrustDeskModel_readClause_33 (by decide) ?_
        obtain ⟨_, b1171, -⟩ := I722.1 _ _ t731
        have : (1 : Int32).toInt = 1 := by decide
        refine mv_callV (kc' := 0) (ks' := 0) (As := [.int 1]) (st9 := [.int 1, .ref o0]) d_TrustDeskModel_readClause_34 lV_TrustDeskModel_240 b1171 rfl (tc_TrustDeskModel_fails_x (d := (d + 25)) (x9 := x9) (o0 := o0) (x1 := 1) t731 R727 (by decide) Z9744 I722.start) rfl (Nat.le_of_ble_eq_true rfl) (Nat.le_of_ble_eq_true rfl) (Nat.le_of_ble_eq_true rfl) (hst := rfl) (fun b1165r M1166 n1167 b1165 => ?_)
        obtain ⟨T1168, J1169, rfl, R1172, f1173, f1174⟩ := b1165
        have I1170 := I722.call J1169 (tm_sub (by decide)) (Or.inl rfl)
        have t1175 := J1169.up t731
        have z1176 := (rv_c I722 J1169 (I722.up h_o0) (k := 15) rfl).trans z732
        have z1177 := (rv_c I722 J1169 (I722.up h_o0) (k := 16) rfl).trans z733
        have z1178 := (rv_c I722 J1169 (I722.up h_o0) (k := 17) rfl).trans z734
        have z1179 := (rv_c I722 J1169 (I722.up h_o0) (k := 22) rfl).trans z736
        have z1180 := (rv_c I722 J1169 (I722.up h_o0) (k := 24) rfl).trans z737
        have z1181 := (ra_call I722 J1169 (I722.up h_o0) (k := 5) rfl rfl rfl 44).trans z738
        have z1182 := (ra_call I722 J1169 (I722.up h_o0) (k := 6) rfl rfl rfl 44).trans z739
        have E1183 : rE M0 M1166 o0 0 0 := E740.fails (rE_hv I722 J1169 (I722.up h_o0) 15 18 (by decide)) (rE_ha I722 J1169 (I722.up h_o0) (by decide)) f1173 0 0
        have K1184 : rK M0 M1166 o0 ((880 + ra M0 o0 6 44).toNat) := K741.same (sA_c I722 J1169 (I722.up h_o0) (by decide +kernel))
        have K1185 : nN M1166 o0 := K742.same (sA_c I722 J1169 (I722.up h_o0) (by decide +kernel)) (sF_c I722 J1169 (I722.up h_o0) (by decide +kernel))
        have K1186 : pN M1166 o0 pn pN9 := K743.same (sA_c I722 J1169 (I722.up h_o0) (by decide +kernel)) (sF_c I722 J1169 (I722.up h_o0) (by decide +kernel))
        rw [show (1 : Int32).toInt = 1 from by decide] at f1174
        obtain ⟨s1187, e1188⟩ : ∃ s9 : p_S, p_fl pb pn 1 ps = s9 := ⟨_, rfl⟩
        rw [e1188] at f1174
        have := f1174.w
        clear z732 z733 z734 z736 z737 z738 z739
        refine mv_goto (tgt := 70) d_TrustDeskModel_readClause_37 (by decide) ?_
        refine mv_aload_n d_TrustDeskModel_readClause_70 rfl rfl ?_
        obtain ⟨_, b1189, -⟩ := I1170.1 _ _ t1175
        refine mv_callV (kc1 := 0) (ks1 := 0) (kc' := 0) (ks' := 0) (As := []) (st9 := [.ref o0]) d_TrustDeskModel_readClause_71 lV_TrustDeskModel_230 b1189 rfl (mj_enter (by decide) (Nat.le_of_ble_eq_true rfl) ?_) rfl (Nat.le_of_ble_eq_true rfl) (Nat.le_of_ble_eq_true rfl) (Nat.le_of_ble_eq_true rfl) (hst := rfl) (fun _ _ _ h => h)
        refine mv_aload_n d_TrustDeskModel_isWell_0 rfl rfl ?_
        obtain ⟨v1191, q1190⟩ := tm_atI I1170 t1175 (k := 19) rfl
        refine tr_getK q1190 d_TrustDeskModel_isWell_1 f_TrustDeskModel_224_13 ?_
        have := R1172.f (k := 19) q1190 rfl
        have := tm_rv q1190
        refine mv_if_neZ (tgt := 11) (a := v1191.toInt) d_TrustDeskModel_isWell_4 (by decide) rfl (fun b1192 => ?_) (fun b1192 => ?_)
        · refine mv_iconst (v := 0) d_TrustDeskModel_isWell_11 (by decide) ?_
          refine mv_iret d_TrustDeskModel_isWell_12 rfl (by decide) ?_
          refine mv_if_ne_f (tgt := 78) d_TrustDeskModel_readClause_74 (by decide) (by decide) ?_
          exact mv_vret d_TrustDeskModel_readClause_77 rfl ⟨_, I1170, rfl, R1172, (rW.of E1183.1 (fun h9 => by exfalso; skip; have := R1172.1 15 _ _ rfl; have := R1172.1 16 _ _ rfl; have := R1172.1 19 _ _ rfl; omega) (fun h9 => by exfalso; skip; have := R1172.1 15 _ _ rfl; have := R1172.1 16 _ _ rfl; have := R1172.1 19 _ _ rfl; omega)), (rO.of E1183 K1184 (by have := yR.2 6 _ _ rfl 44; omega)), ⟨E1183.2.1, fun w9 => by skip; have := E1183.w2 w9; omega⟩, (fun w9 => by skip; omega), (fun _ h9 => by exfalso; skip; have := R1172.1 15 _ _ rfl; have := R1172.1 16 _ _ rfl; have := R1172.1 19 _ _ rfl; omega), (by have := R1172.1 15 _ _ rfl; have := R1172.1 16 _ _ rfl; have := R1172.1 19 _ _ rfl; omega), (by first | (have := pW0 (Im.o d31) (by omega); have := Z930.wk; have := pW0 (Im.o d297) (by omega); have := pW0 (Im.o d745) (by omega); rw [show (p_cl pb pn pa (pc9, pN9, ps)).2 = s1187 from (by unfold p_cl; unfold p_tru; (try simp only [e1188]); ((repeat' (first | (with_reducible rfl) | split)) <;> (first | ((try simp only [e1188]); done) | ((try simp only [e1188]); first | exact p_sg_Z _ (by omega) | omega) | (exfalso; omega))))]; exact f1174) | (exfalso; have := R1172.1 15 _ _ rfl; have := R1172.1 16 _ _ rfl; have := R1172.1 19 _ _ rfl; omega)), (fun w9 => by skip; omega), (fun h9 => by exfalso; skip; have := R1172.1 15 _ _ rfl; have := R1172.1 16 _ _ rfl; have := R1172.1 19 _ _ rfl; omega)⟩
        · exfalso
          have := R1172.1 15 _ _ rfl; have := R1172.1 16 _ _ rfl; have := R1172.1 19 _ _ rfl; omega
