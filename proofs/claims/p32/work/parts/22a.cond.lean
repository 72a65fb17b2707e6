abbrev kY_TrustDeskModel_cond : mj_Y := (⟨"TrustDeskModel", "cond", "()V"⟩, prog_14_method_32_code, 1, (Option.none : Option Jvm.ClassFile.FieldType))
theorem d_TrustDeskModel_cond_0 : decode kY_TrustDeskModel_cond.2.1 0 = .ok (.aload_n 0, 1) := by decide +kernel
theorem d_TrustDeskModel_cond_1 : decode kY_TrustDeskModel_cond.2.1 1 = .ok (.invokevirtual 312, 3) := by decide +kernel
abbrev kY_TrustDeskModel_both : mj_Y := (⟨"TrustDeskModel", "both", "()V"⟩, prog_14_method_31_code, 1, (Option.none : Option Jvm.ClassFile.FieldType))
theorem d_TrustDeskModel_both_0 : decode kY_TrustDeskModel_both.2.1 0 = .ok (.aload_n 0, 1) := by decide +kernel
theorem d_TrustDeskModel_both_1 : decode kY_TrustDeskModel_both.2.1 1 = .ok (.invokevirtual 308, 3) := by decide +kernel
abbrev kY_TrustDeskModel_part_0 : mj_Y := (⟨"TrustDeskModel", "part", "()V"⟩, prog_14_method_30_code, 2, (Option.none : Option Jvm.ClassFile.FieldType))
theorem d_TrustDeskModel_part_0_0 : decode kY_TrustDeskModel_part_0.2.1 0 = .ok (.iconst 0, 1) := by decide +kernel
theorem d_TrustDeskModel_part_0_1 : decode kY_TrustDeskModel_part_0.2.1 1 = .ok (.istore_n 1, 1) := by decide +kernel
theorem d_TrustDeskModel_part_0_2 : decode kY_TrustDeskModel_part_0.2.1 2 = .ok (.aload_n 0, 1) := by decide +kernel
theorem d_TrustDeskModel_part_0_3 : decode kY_TrustDeskModel_part_0.2.1 3 = .ok (.invokevirtual 230, 3) := by decide +kernel
theorem d_TrustDeskModel_part_0_6 : decode kY_TrustDeskModel_part_0.2.1 6 = .ok (.ifCond .eq 30, 3) := by decide +kernel
theorem d_TrustDeskModel_part_0_36 : decode kY_TrustDeskModel_part_0.2.1 36 = .ok (.aload_n 0, 1) := by decide +kernel
theorem d_TrustDeskModel_part_0_37 : decode kY_TrustDeskModel_part_0.2.1 37 = .ok (.invokevirtual 230, 3) := by decide +kernel
theorem d_TrustDeskModel_part_0_40 : decode kY_TrustDeskModel_part_0.2.1 40 = .ok (.ifCond .ne 4, 3) := by decide +kernel
theorem d_TrustDeskModel_part_0_43 : decode kY_TrustDeskModel_part_0.2.1 43 = .ok (.return_, 1) := by decide +kernel
theorem d_TrustDeskModel_part_0_9 : decode kY_TrustDeskModel_part_0.2.1 9 = .ok (.aload_n 0, 1) := by decide +kernel
theorem d_TrustDeskModel_part_0_10 : decode kY_TrustDeskModel_part_0.2.1 10 = .ok (.ldc_w 300, 3) := by decide +kernel
theorem d_TrustDeskModel_part_0_13 : decode kY_TrustDeskModel_part_0.2.1 13 = .ok (.invokevirtual 244, 3) := by decide +kernel
def w_TrustDeskModel_isWord_s1_26_x : List Nat := []
set_option maxHeartbeats 100000000 in theorem tc_TrustDeskModel_isWord_s1_26_x {g : mj_G} {l : Launch} {d : Nat} {T0 : tm_H} {M0 : mj_M} {n0 x9 : Nat} {o0 : Nat} (h_o0 : T0 o0 = some (0, 13, 0)) (yR : rI M0 o0) (I0 : tm_I tm_FT (tm_in w_TrustDeskModel_isWord_s1_26_x) x9 T0 M0 n0 T0 M0 n0) : mj_Met g l kY_TrustDeskModel_isWord (d + 4) [.ref o0, .ref 26] M0 n0 0 0 (tm_Q tm_FT (tm_in w_TrustDeskModel_isWord_s1_26_x) x9 T0 M0 n0 (fun r _ M => ∃ v : Int32, r = some (.int v) ∧ 0 ≤ v.toInt ∧ v.toInt ≤ 1 ∧ rI M o0 ∧ (v.toInt = 1 → rv M0 o0 17 = 3) ∧ (v.toInt = 1 → rv M0 o0 17 = 3 ∧ rv M0 o0 15 - rv M0 o0 16 = 3 ∧ ra M0 o0 13 ((rv M0 o0 16).toNat + 0) = 110 ∧ ra M0 o0 13 ((rv M0 o0 16).toNat + 1) = 111 ∧ ra M0 o0 13 ((rv M0 o0 16).toNat + 2) = 116) ∧ (v.toInt = 0 → ¬ (rv M0 o0 17 = 3 ∧ rv M0 o0 15 - rv M0 o0 16 = 3 ∧ ra M0 o0 13 ((rv M0 o0 16).toNat + 0) = 110 ∧ ra M0 o0 13 ((rv M0 o0 16).toNat + 1) = 111 ∧ ra M0 o0 13 ((rv M0 o0 16).toNat + 2) = 116)))) := by
  refine mj_enter (by decide) (Nat.le_of_ble_eq_true rfl) ?_
  refine mv_aload_n d_TrustDeskModel_isWord_0 rfl rfl ?_
  obtain ⟨v2, q1⟩ := tm_atI I0 h_o0 (k := 17) rfl
  refine tr_getK q1 d_TrustDeskModel_isWord_1 f_TrustDeskModel_198_13 ?_
  have := tm_rv q1
  refine mv_iconst (v := 3) d_TrustDeskModel_isWord_4 (by decide) ?_
  have := mz_hi v2
  refine mv_icmp_neZ (tgt := 24) (a := v2.toInt) (b := 3) d_TrustDeskModel_isWord_5 (by decide) rfl (by decide) (fun b3 => ?_) (fun b3 => ?_)
  · refine mv_iconst (v := 0) d_TrustDeskModel_isWord_24 (by decide) ?_
    exact mv_iret d_TrustDeskModel_isWord_25 rfl (by decide) ⟨_, I0, _, rfl, by decide, by decide, yR, (fun h => absurd h (by decide)), (fun h => absurd h (by decide)), (fun _ h => by obtain ⟨h1, h2, h3, h4, h5⟩ := h; have := yR.1 15 _ _ rfl; have := yR.1 16 _ _ rfl; have := yR.1 19 _ _ rfl; omega)⟩
  · refine mv_aload_n d_TrustDeskModel_isWord_8 rfl rfl ?_
    obtain ⟨v5, q4⟩ := tm_atI I0 h_o0 (k := 15) rfl
    refine tr_getK q4 d_TrustDeskModel_isWord_9 f_TrustDeskModel_192_13 ?_
    have := yR.f (k := 15) q4 rfl
    have := tm_rv q4
    refine mv_aload_n d_TrustDeskModel_isWord_12 rfl rfl ?_
    obtain ⟨v7, q6⟩ := tm_atI I0 h_o0 (k := 16) rfl
    refine tr_getK q6 d_TrustDeskModel_isWord_13 f_TrustDeskModel_195_13 ?_
    have := yR.f (k := 16) q6 rfl
    have := tm_rv q6
    refine mv_isub d_TrustDeskModel_isWord_16 ?_
    refine mv_aload_n d_TrustDeskModel_isWord_17 rfl rfl ?_
    refine mv_slenK (i := 16) (v := 3) d_TrustDeskModel_isWord_18 lV_TrustDeskModel_214 (by decide) rfl (by decide) (Nat.le_of_ble_eq_true rfl) ?_
    have b8 : (v5 - v7 : Int32).toInt = (v5.toInt - v7.toInt) := mz_sub2 rfl rfl (by have := yR.1 15 _ _ rfl; have := yR.1 16 _ _ rfl; have := yR.1 19 _ _ rfl; omega) (by have := yR.1 15 _ _ rfl; have := yR.1 16 _ _ rfl; have := yR.1 19 _ _ rfl; omega)
    have := mz_hi (v5 - v7)
    refine mv_icmp_eqZ (tgt := 26) (a := (v5 - v7).toInt) (b := 3) d_TrustDeskModel_isWord_21 (by decide) rfl (by decide) (fun b9 => ?_) (fun b9 => ?_)
    · refine mv_iconst (v := 0) d_TrustDeskModel_isWord_26 (by decide) ?_
      refine mv_istore_n (lv' := [(2, .int 0), (0, .ref o0), (1, .ref 26)]) d_TrustDeskModel_isWord_27 rfl (by decide) rfl ?_
      refine mv_iload_n d_TrustDeskModel_isWord_28 rfl rfl ?_
      refine mv_aload_n d_TrustDeskModel_isWord_29 rfl rfl ?_
      refine mv_slenK (i := 16) (v := 3) d_TrustDeskModel_isWord_30 lV_TrustDeskModel_214 (by decide) rfl (by decide) (Nat.le_of_ble_eq_true rfl) ?_
      refine mv_icmp_ge_f (tgt := 63) d_TrustDeskModel_isWord_33 (by decide) (by decide) ?_
      refine mv_aload_n d_TrustDeskModel_isWord_36 rfl rfl ?_
      obtain ⟨a11, q10, t_a11⟩ := tm_atR I0 h_o0 (k := 13) rfl
      refine tr_getK q10 d_TrustDeskModel_isWord_37 f_TrustDeskModel_44_13 ?_
      refine mv_aload_n d_TrustDeskModel_isWord_40 rfl rfl ?_
      refine tr_getK (k := 16) q6 d_TrustDeskModel_isWord_41 f_TrustDeskModel_195_13 ?_
      refine mv_iload_n d_TrustDeskModel_isWord_44 rfl rfl ?_
      refine mv_iadd d_TrustDeskModel_isWord_45 ?_
      have b12 : (v7 + 0 : Int32).toInt = (v7.toInt + 0) := mz_add2 rfl (by decide) (by have := yR.1 15 _ _ rfl; have := yR.1 16 _ _ rfl; have := yR.1 19 _ _ rfl; omega) (by have := yR.1 15 _ _ rfl; have := yR.1 16 _ _ rfl; have := yR.1 19 _ _ rfl; omega)
      refine tr_baldR (o := o0) (k := 13) I0 q10 t_a11 (by decide) d_TrustDeskModel_isWord_46 (vp_in_iff.mpr (by have := yR.1 15 _ _ rfl; have := yR.1 16 _ _ rfl; have := yR.1 19 _ _ rfl; omega)) (fun v13 e14 => ?_)
      have := yR.a (k := 13) rfl ((v7 + 0) : Int32).toNatClampNeg
      have h15 : (v7 + 0).toNatClampNeg = (rv M0 o0 16).toNat + 0 := by have := mz_nat9 (i := (v7 + 0)) (by have := yR.1 15 _ _ rfl; have := yR.1 16 _ _ rfl; have := yR.1 19 _ _ rfl; omega); have := yR.1 15 _ _ rfl; have := yR.1 16 _ _ rfl; have := yR.1 19 _ _ rfl; omega
      have : v13.toInt = ra M0 o0 13 ((rv M0 o0 16).toNat + 0) := by rw [e14, h15]
      refine mv_aload_n d_TrustDeskModel_isWord_47 rfl rfl ?_
      refine mv_iload_n d_TrustDeskModel_isWord_48 rfl rfl ?_
      refine mv_schC (i := 16) (v := 110) d_TrustDeskModel_isWord_49 lV_TrustDeskModel_220 (by decide) rfl (by decide) (by decide) (Nat.le_of_ble_eq_true rfl) (by decide) ?_
      have := mz_hi v13
      refine mv_icmp_eqZ (tgt := 57) (a := v13.toInt) (b := 110) d_TrustDeskModel_isWord_52 (by decide) rfl (by decide) (fun b16 => ?_) (fun b16 => ?_)
      · refine mv_iinc (v := 1) (lv' := [(2, .int 1), (0, .ref o0), (1, .ref 26)]) d_TrustDeskModel_isWord_57 rfl (by decide) (by decide) rfl ?_
        refine mv_goto (tgt := 28) d_TrustDeskModel_isWord_60 (by decide) ?_
        refine mv_iload_n d_TrustDeskModel_isWord_28 rfl rfl ?_
        refine mv_aload_n d_TrustDeskModel_isWord_29 rfl rfl ?_
        refine mv_slenK (i := 16) (v := 3) d_TrustDeskModel_isWord_30 lV_TrustDeskModel_214 (by decide) rfl (by decide) (Nat.le_of_ble_eq_true rfl) ?_
        refine mv_icmp_ge_f (tgt := 63) d_TrustDeskModel_isWord_33 (by decide) (by decide) ?_
        refine mv_aload_n d_TrustDeskModel_isWord_36 rfl rfl ?_
        refine tr_getK (k := 13) q10 d_TrustDeskModel_isWord_37 f_TrustDeskModel_44_13 ?_
        refine mv_aload_n d_TrustDeskModel_isWord_40 rfl rfl ?_
        refine tr_getK (k := 16) q6 d_TrustDeskModel_isWord_41 f_TrustDeskModel_195_13 ?_
        refine mv_iload_n d_TrustDeskModel_isWord_44 rfl rfl ?_
        refine mv_iadd d_TrustDeskModel_isWord_45 ?_
        have b17 : (v7 + 1 : Int32).toInt = (v7.toInt + 1) := mz_add2 rfl (by decide) (by have := yR.1 15 _ _ rfl; have := yR.1 16 _ _ rfl; have := yR.1 19 _ _ rfl; omega) (by have := yR.1 15 _ _ rfl; have := yR.1 16 _ _ rfl; have := yR.1 19 _ _ rfl; omega)
        refine tr_baldR (o := o0) (k := 13) I0 q10 t_a11 (by decide) d_TrustDeskModel_isWord_46 (vp_in_iff.mpr (by have := yR.1 15 _ _ rfl; have := yR.1 16 _ _ rfl; have := yR.1 19 _ _ rfl; omega)) (fun v18 e19 => ?_)
        have := yR.a (k := 13) rfl ((v7 + 1) : Int32).toNatClampNeg
        have h20 : (v7 + 1).toNatClampNeg = (rv M0 o0 16).toNat + 1 := by have := mz_nat9 (i := (v7 + 1)) (by have := yR.1 15 _ _ rfl; have := yR.1 16 _ _ rfl; have := yR.1 19 _ _ rfl; omega); have := yR.1 15 _ _ rfl; have := yR.1 16 _ _ rfl; have := yR.1 19 _ _ rfl; omega
        have : v18.toInt = ra M0 o0 13 ((rv M0 o0 16).toNat + 1) := by rw [e19, h20]
        refine mv_aload_n d_TrustDeskModel_isWord_47 rfl rfl ?_
        refine mv_iload_n d_TrustDeskModel_isWord_48 rfl rfl ?_
        refine mv_schC (i := 16) (v := 111) d_TrustDeskModel_isWord_49 lV_TrustDeskModel_220 (by decide) rfl (by decide) (by decide) (Nat.le_of_ble_eq_true rfl) (by decide) ?_
        have := mz_hi v18
        refine mv_icmp_eqZ (tgt := 57) (a := v18.toInt) (b := 111) d_TrustDeskModel_isWord_52 (by decide) rfl (by decide) (fun b21 => ?_) (fun b21 => ?_)
        · refine mv_iinc (v := 2) (lv' := [(2, .int 2), (0, .ref o0), (1, .ref 26)]) d_TrustDeskModel_isWord_57 rfl (by decide) (by decide) rfl ?_
          refine mv_goto (tgt := 28) d_TrustDeskModel_isWord_60 (by decide) ?_
          refine mv_iload_n d_TrustDeskModel_isWord_28 rfl rfl ?_
          refine mv_aload_n d_TrustDeskModel_isWord_29 rfl rfl ?_
          refine mv_slenK (i := 16) (v := 3) d_TrustDeskModel_isWord_30 lV_TrustDeskModel_214 (by decide) rfl (by decide) (Nat.le_of_ble_eq_true rfl) ?_
          refine mv_icmp_ge_f (tgt := 63) d_TrustDeskModel_isWord_33 (by decide) (by decide) ?_
          refine mv_aload_n d_TrustDeskModel_isWord_36 rfl rfl ?_
          refine tr_getK (k := 13) q10 d_TrustDeskModel_isWord_37 f_TrustDeskModel_44_13 ?_
          refine mv_aload_n d_TrustDeskModel_isWord_40 rfl rfl ?_
          refine tr_getK (k := 16) q6 d_TrustDeskModel_isWord_41 f_TrustDeskModel_195_13 ?_
          refine mv_iload_n d_TrustDeskModel_isWord_44 rfl rfl ?_
          refine mv_iadd d_TrustDeskModel_isWord_45 ?_
          have b22 : (v7 + 2 : Int32).toInt = (v7.toInt + 2) := mz_add2 rfl (by decide) (by have := yR.1 15 _ _ rfl; have := yR.1 16 _ _ rfl; have := yR.1 19 _ _ rfl; omega) (by have := yR.1 15 _ _ rfl; have := yR.1 16 _ _ rfl; have := yR.1 19 _ _ rfl; omega)
          refine tr_baldR (o := o0) (k := 13) I0 q10 t_a11 (by decide) d_TrustDeskModel_isWord_46 (vp_in_iff.mpr (by have := yR.1 15 _ _ rfl; have := yR.1 16 _ _ rfl; have := yR.1 19 _ _ rfl; omega)) (fun v23 e24 => ?_)
          have := yR.a (k := 13) rfl ((v7 + 2) : Int32).toNatClampNeg
          have h25 : (v7 + 2).toNatClampNeg = (rv M0 o0 16).toNat + 2 := by have := mz_nat9 (i := (v7 + 2)) (by have := yR.1 15 _ _ rfl; have := yR.1 16 _ _ rfl; have := yR.1 19 _ _ rfl; omega); have := yR.1 15 _ _ rfl; have := yR.1 16 _ _ rfl; have := yR.1 19 _ _ rfl; omega
          have : v23.toInt = ra M0 o0 13 ((rv M0 o0 16).toNat + 2) := by rw [e24, h25]
          refine mv_aload_n d_TrustDeskModel_isWord_47 rfl rfl ?_
          refine mv_iload_n d_TrustDeskModel_isWord_48 rfl rfl ?_
          refine mv_schC (i := 16) (v := 116) d_TrustDeskModel_isWord_49 lV_TrustDeskModel_220 (by decide) rfl (by decide) (by decide) (Nat.le_of_ble_eq_true rfl) (by decide) ?_
          have := mz_hi v23
          refine mv_icmp_eqZ (tgt := 57) (a := v23.toInt) (b := 116) d_TrustDeskModel_isWord_52 (by decide) rfl (by decide) (fun b26 => ?_) (fun b26 => ?_)
          · refine mv_iinc (v := 3) (lv' := [(2, .int 3), (0, .ref o0), (1, .ref 26)]) d_TrustDeskModel_isWord_57 rfl (by decide) (by decide) rfl ?_
            refine mv_goto (tgt := 28) d_TrustDeskModel_isWord_60 (by decide) ?_
            refine mv_iload_n d_TrustDeskModel_isWord_28 rfl rfl ?_
            refine mv_aload_n d_TrustDeskModel_isWord_29 rfl rfl ?_
            refine mv_slenK (i := 16) (v := 3) d_TrustDeskModel_isWord_30 lV_TrustDeskModel_214 (by decide) rfl (by decide) (Nat.le_of_ble_eq_true rfl) ?_
            refine mv_icmp_ge_t (tgt := 63) d_TrustDeskModel_isWord_33 (by decide) (by decide) ?_
            refine mv_iconst (v := 1) d_TrustDeskModel_isWord_63 (by decide) ?_
            exact mv_iret d_TrustDeskModel_isWord_64 rfl (by decide) ⟨_, I0, _, rfl, by decide, by decide, yR, (fun _ => by have := yR.1 15 _ _ rfl; have := yR.1 16 _ _ rfl; have := yR.1 19 _ _ rfl; omega), (fun _ => ⟨by have := yR.1 15 _ _ rfl; have := yR.1 16 _ _ rfl; have := yR.1 19 _ _ rfl; omega, by have := yR.1 15 _ _ rfl; have := yR.1 16 _ _ rfl; have := yR.1 19 _ _ rfl; omega, by have := yR.1 15 _ _ rfl; have := yR.1 16 _ _ rfl; have := yR.1 19 _ _ rfl; omega, by have := yR.1 15 _ _ rfl; have := yR.1 16 _ _ rfl; have := yR.1 19 _ _ rfl; omega, by have := yR.1 15 _ _ rfl; have := yR.1 16 _ _ rfl; have := yR.1 19 _ _ rfl; omega⟩), (fun h => absurd h (by decide))⟩
          · refine mv_iconst (v := 0) d_TrustDeskModel_isWord_55 (by decide) ?_
            exact mv_iret d_TrustDeskModel_isWord_56 rfl (by decide) ⟨_, I0, _, rfl, by decide, by decide, yR, (fun h => absurd h (by decide)), (fun h => absurd h (by decide)), (fun _ h => by obtain ⟨h1, h2, h3, h4, h5⟩ := h; have := yR.1 15 _ _ rfl; have := yR.1 16 _ _ rfl; have := yR.1 19 _ _ rfl; omega)⟩
        · refine mv_iconst (v := 0) d_TrustDeskModel_isWord_55 (by decide) ?_
          exact mv_iret d_TrustDeskModel_isWord_56 rfl (by decide) ⟨_, I0, _, rfl, by decide, by decide, yR, (fun h => absurd h (by decide)), (fun h => absurd h (by decide)), (fun _ h => by obtain ⟨h1, h2, h3, h4, h5⟩ := h; have := yR.1 15 _ _ rfl; have := yR.1 16 _ _ rfl; have := yR.1 19 _ _ rfl; omega)⟩
      · refine mv_iconst (v := 0) d_TrustDeskModel_isWord_55 (by decide) ?_
        exact mv_iret d_TrustDeskModel_isWord_56 rfl (by decide) ⟨_, I0, _, rfl, by decide, by decide, yR, (fun h => absurd h (by decide)), (fun h => absurd h (by decide)), (fun _ h => by obtain ⟨h1, h2, h3, h4, h5⟩ := h; have := yR.1 15 _ _ rfl; have := yR.1 16 _ _ rfl; have := yR.1 19 _ _ rfl; omega)⟩
    · refine mv_iconst (v := 0) d_TrustDeskModel_isWord_24 (by decide) ?_
      exact mv_iret d_TrustDeskModel_isWord_25 rfl (by decide) ⟨_, I0, _, rfl, by decide, by decide, yR, (fun h => absurd h (by decide)), (fun h => absurd h (by decide)), (fun _ h => by obtain ⟨h1, h2, h3, h4, h5⟩ := h; have := yR.1 15 _ _ rfl; have := yR.1 16 _ _ rfl; have := yR.1 19 _ _ rfl; omega)⟩
theorem d_TrustDeskModel_part_0_16 : decode kY_TrustDeskModel_part_0.2.1 16 = .ok (.ifCond .eq 20, 3) := by decide +kernel
theorem d_TrustDeskModel_part_0_44 : decode kY_TrustDeskModel_part_0.2.1 44 = .ok (.aload_n 0, 1) := by decide +kernel
theorem d_TrustDeskModel_part_0_45 : decode kY_TrustDeskModel_part_0.2.1 45 = .ok (.bipush 91, 2) := by decide +kernel
theorem d_TrustDeskModel_part_0_47 : decode kY_TrustDeskModel_part_0.2.1 47 = .ok (.invokevirtual 234, 3) := by decide +kernel
theorem d_TrustDeskModel_part_0_50 : decode kY_TrustDeskModel_part_0.2.1 50 = .ok (.ifCond .eq 30, 3) := by decide +kernel
theorem d_TrustDeskModel_part_0_80 : decode kY_TrustDeskModel_part_0.2.1 80 = .ok (.aload_n 0, 1) := by decide +kernel
theorem d_TrustDeskModel_part_0_81 : decode kY_TrustDeskModel_part_0.2.1 81 = .ok (.invokevirtual 305, 3) := by decide +kernel
abbrev kY_TrustDeskModel_compares : mj_Y := (⟨"TrustDeskModel", "compares", "()V"⟩, prog_14_method_29_code, 2, (Option.none : Option Jvm.ClassFile.FieldType))
theorem d_TrustDeskModel_compares_0 : decode kY_TrustDeskModel_compares.2.1 0 = .ok (.aload_n 0, 1) := by decide +kernel
theorem d_TrustDeskModel_compares_1 : decode kY_TrustDeskModel_compares.2.1 1 = .ok (.invokevirtual 288, 3) := by decide +kernel
theorem d_TrustDeskModel_compares_4 : decode kY_TrustDeskModel_compares.2.1 4 = .ok (.aload_n 0, 1) := by decide +kernel
theorem d_TrustDeskModel_compares_5 : decode kY_TrustDeskModel_compares.2.1 5 = .ok (.invokevirtual 230, 3) := by decide +kernel
theorem d_TrustDeskModel_compares_8 : decode kY_TrustDeskModel_compares.2.1 8 = .ok (.ifCond .ne 4, 3) := by decide +kernel
theorem d_TrustDeskModel_compares_11 : decode kY_TrustDeskModel_compares.2.1 11 = .ok (.return_, 1) := by decide +kernel
theorem d_TrustDeskModel_compares_12 : decode kY_TrustDeskModel_compares.2.1 12 = .ok (.aload_n 0, 1) := by decide +kernel
theorem d_TrustDeskModel_compares_13 : decode kY_TrustDeskModel_compares.2.1 13 = .ok (.bipush 60, 2) := by decide +kernel
theorem d_TrustDeskModel_compares_15 : decode kY_TrustDeskModel_compares.2.1 15 = .ok (.invokevirtual 234, 3) := by decide +kernel
theorem d_TrustDeskModel_compares_18 : decode kY_TrustDeskModel_compares.2.1 18 = .ok (.ifCond .eq 8, 3) := by decide +kernel
theorem d_TrustDeskModel_compares_26 : decode kY_TrustDeskModel_compares.2.1 26 = .ok (.aload_n 0, 1) := by decide +kernel
theorem d_TrustDeskModel_compares_27 : decode kY_TrustDeskModel_compares.2.1 27 = .ok (.bipush 62, 2) := by decide +kernel
theorem d_TrustDeskModel_compares_29 : decode kY_TrustDeskModel_compares.2.1 29 = .ok (.invokevirtual 234, 3) := by decide +kernel
theorem d_TrustDeskModel_compares_32 : decode kY_TrustDeskModel_compares.2.1 32 = .ok (.ifCond .eq 8, 3) := by decide +kernel
theorem d_TrustDeskModel_compares_40 : decode kY_TrustDeskModel_compares.2.1 40 = .ok (.aload_n 0, 1) := by decide +kernel
theorem d_TrustDeskModel_compares_41 : decode kY_TrustDeskModel_compares.2.1 41 = .ok (.bipush 61, 2) := by decide +kernel
theorem d_TrustDeskModel_compares_43 : decode kY_TrustDeskModel_compares.2.1 43 = .ok (.invokevirtual 234, 3) := by decide +kernel
theorem d_TrustDeskModel_compares_46 : decode kY_TrustDeskModel_compares.2.1 46 = .ok (.ifCond .eq 8, 3) := by decide +kernel
theorem d_TrustDeskModel_compares_54 : decode kY_TrustDeskModel_compares.2.1 54 = .ok (.iconst 0, 1) := by decide +kernel
theorem d_TrustDeskModel_compares_55 : decode kY_TrustDeskModel_compares.2.1 55 = .ok (.istore_n 1, 1) := by decide +kernel
theorem d_TrustDeskModel_compares_56 : decode kY_TrustDeskModel_compares.2.1 56 = .ok (.iload_n 1, 1) := by decide +kernel
theorem d_TrustDeskModel_compares_57 : decode kY_TrustDeskModel_compares.2.1 57 = .ok (.ifCond .ne 8, 3) := by decide +kernel
theorem d_TrustDeskModel_compares_60 : decode kY_TrustDeskModel_compares.2.1 60 = .ok (.aload_n 0, 1) := by decide +kernel
theorem d_TrustDeskModel_compares_61 : decode kY_TrustDeskModel_compares.2.1 61 = .ok (.iconst 1, 1) := by decide +kernel
theorem d_TrustDeskModel_compares_62 : decode kY_TrustDeskModel_compares.2.1 62 = .ok (.invokevirtual 240, 3) := by decide +kernel
theorem d_TrustDeskModel_compares_65 : decode kY_TrustDeskModel_compares.2.1 65 = .ok (.aload_n 0, 1) := by decide +kernel
theorem d_TrustDeskModel_compares_66 : decode kY_TrustDeskModel_compares.2.1 66 = .ok (.invokevirtual 230, 3) := by decide +kernel
theorem d_TrustDeskModel_compares_69 : decode kY_TrustDeskModel_compares.2.1 69 = .ok (.ifCond .ne 4, 3) := by decide +kernel
theorem d_TrustDeskModel_compares_72 : decode kY_TrustDeskModel_compares.2.1 72 = .ok (.return_, 1) := by decide +kernel
theorem d_TrustDeskModel_compares_73 : decode kY_TrustDeskModel_compares.2.1 73 = .ok (.aload_n 0, 1) := by decide +kernel
theorem d_TrustDeskModel_compares_74 : decode kY_TrustDeskModel_compares.2.1 74 = .ok (.invokevirtual 237, 3) := by decide +kernel
theorem d_TrustDeskModel_compares_77 : decode kY_TrustDeskModel_compares.2.1 77 = .ok (.aload_n 0, 1) := by decide +kernel
theorem d_TrustDeskModel_compares_78 : decode kY_TrustDeskModel_compares.2.1 78 = .ok (.invokevirtual 288, 3) := by decide +kernel
theorem d_TrustDeskModel_compares_81 : decode kY_TrustDeskModel_compares.2.1 81 = .ok (.aload_n 0, 1) := by decide +kernel
theorem d_TrustDeskModel_compares_82 : decode kY_TrustDeskModel_compares.2.1 82 = .ok (.iload_n 1, 1) := by decide +kernel
theorem d_TrustDeskModel_compares_83 : decode kY_TrustDeskModel_compares.2.1 83 = .ok (.invokevirtual 279, 3) := by decide +kernel
theorem d_TrustDeskModel_compares_86 : decode kY_TrustDeskModel_compares.2.1 86 = .ok (.return_, 1) := by decide +kernel
theorem d_TrustDeskModel_compares_49 : decode kY_TrustDeskModel_compares.2.1 49 = .ok (.bipush (-6), 2) := by decide +kernel
theorem d_TrustDeskModel_compares_51 : decode kY_TrustDeskModel_compares.2.1 51 = .ok (.goto 4, 3) := by decide +kernel
theorem d_TrustDeskModel_compares_35 : decode kY_TrustDeskModel_compares.2.1 35 = .ok (.bipush (-5), 2) := by decide +kernel
theorem d_TrustDeskModel_compares_37 : decode kY_TrustDeskModel_compares.2.1 37 = .ok (.goto 18, 3) := by decide +kernel
theorem d_TrustDeskModel_compares_21 : decode kY_TrustDeskModel_compares.2.1 21 = .ok (.bipush (-4), 2) := by decide +kernel
theorem d_TrustDeskModel_compares_23 : decode kY_TrustDeskModel_compares.2.1 23 = .ok (.goto 32, 3) := by decide +kernel
def w_TrustDeskModel_compares_q1_x : List Nat := [1315, 1316, 1317, 1318, 1319, 1320, 1322, 20004, 20005]
set_option maxHeartbeats 100000000 in theorem tc_TrustDeskModel_compares_q1_x {g : mj_G} {l : Launch} {d : Nat} {T0 : tm_H} {M0 : mj_M} {n0 x9 : Nat} {o0 : Nat} (h_o0 : T0 o0 = some (0, 13, 0)) (yR : rI M0 o0) (yT : rT M0 o0) (yS : rv M0 o0 19 = 0 → ra M0 o0 5 44 ≤ rv M0 o0 16) (yL : rv M0 o0 19 ≠ 0 ∨ (4 ≤ rv M0 o0 22 ∧ rv M0 o0 22 ≤ 4)) {pb : Nat → Int} {pn : Nat} {pa : Int} {ps : p_S} (yO : pO M0 o0 pb pn pa ps) (I0 : tm_I tm_FT (tm_in w_TrustDeskModel_compares_q1_x) x9 T0 M0 n0 T0 M0 n0) : mj_Met g l kY_TrustDeskModel_compares (d + 9) [.ref o0] M0 n0 0 0 (tm_Q tm_FT (tm_in w_TrustDeskModel_compares_q1_x) x9 T0 M0 n0 (fun r _ M => r = none ∧ rI M o0 ∧ (rE M0 M o0 1 0) ∧ (rv M o0 19 = 0 → rv M o0 22 = rv M0 o0 22) ∧ (pO M o0 pb pn pa (p_cmp pb pn pa 0 ps)))) := by
  refine mj_enter (by decide) (Nat.le_of_ble_eq_true rfl) ?_
  have yE0 := rE.rf yT
  have := yO.w
  refine mv_aload_n d_TrustDeskModel_compares_0 rfl rfl ?_
  obtain ⟨_, b7, -⟩ := I0.1 _ _ h_o0
  refine mv_callV (kc' := 0) (ks' := 0) (As := []) (st9 := [.ref o0]) d_TrustDeskModel_compares_1 lV_TrustDeskModel_288 b7 rfl (tc_TrustDeskModel_sum_q1_x (d := d) (x9 := x9) (o0 := o0) h_o0 yR yE0.1 (by have := yR.1 15 _ _ rfl; have := yR.1 16 _ _ rfl; have := yR.1 19 _ _ rfl; have := yE0.f yS; omega) (by have := yR.1 15 _ _ rfl; have := yR.1 16 _ _ rfl; have := yR.1 19 _ _ rfl; have := yE0.f yS; omega) yO I0.start) rfl (Nat.le_of_ble_eq_true rfl) (Nat.le_of_ble_eq_true rfl) (Nat.le_of_ble_eq_true rfl) (hst := rfl) (fun b1r M2 n3 b1 => ?_)
  obtain ⟨T4, J5, rfl, R8, f9, f10, f11⟩ := b1
  have I6 := I0.call J5 (tm_sub (by decide)) (Or.inl rfl)
  have t12 := J5.up h_o0
  have E13 : rE M0 M2 o0 1 0 := yE0.trans f9 (by decide) (yR.2 5 _ _ rfl 44).1 (by decide) (by decide)
  have := f9.w
  obtain ⟨s14, e15⟩ : ∃ s9 : p_S, p_sum pb pn pa (p_op pb pn pa 0) ps = s9 := ⟨_, rfl⟩
  rw [e15] at f11
  have := f11.w
  refine mv_aload_n d_TrustDeskModel_compares_4 rfl rfl ?_
  obtain ⟨_, b16, -⟩ := I6.1 _ _ t12
  refine mv_callV (kc1 := 0) (ks1 := 0) (kc' := 0) (ks' := 0) (As := []) (st9 := [.ref o0]) d_TrustDeskModel_compares_5 lV_TrustDeskModel_230 b16 rfl (mj_enter (by decide) (Nat.le_of_ble_eq_true rfl) ?_) rfl (Nat.le_of_ble_eq_true rfl) (Nat.le_of_ble_eq_true rfl) (Nat.le_of_ble_eq_true rfl) (hst := rfl) (fun _ _ _ h => h)
  refine mv_aload_n d_TrustDeskModel_isWell_0 rfl rfl ?_
  obtain ⟨v18, q17⟩ := tm_atI I6 t12 (k := 19) rfl
  refine tr_getK q17 d_TrustDeskModel_isWell_1 f_TrustDeskModel_224_13 ?_
  have := R8.f (k := 19) q17 rfl
  have := tm_rv q17
  have := mz_hi v18
  refine mv_if_neZ (tgt := 11) (a := v18.toInt) d_TrustDeskModel_isWell_4 (by decide) rfl (fun b19 => ?_) (fun b19 => ?_)
  · refine mv_iconst (v := 0) d_TrustDeskModel_isWell_11 (by decide) ?_
    refine mv_iret d_TrustDeskModel_isWell_12 rfl (by decide) ?_
    refine mv_if_ne_f (tgt := 12) d_TrustDeskModel_compares_8 (by decide) (by decide) ?_
    exact mv_vret d_TrustDeskModel_compares_11 rfl ⟨_, I6, rfl, R8, E13, (by have := R8.1 15 _ _ rfl; have := R8.1 16 _ _ rfl; have := R8.1 19 _ _ rfl; have := E13.f yS; omega), (by first | (rw [show p_cmp pb pn pa 0 ps = s14 from (by unfold p_cmp; (try simp only [e15]); ((repeat' (first | (with_reducible rfl) | split)) <;> (exfalso; omega)))]; exact f11) | (exfalso; have := R8.1 15 _ _ rfl; have := R8.1 16 _ _ rfl; have := R8.1 19 _ _ rfl; have := E13.f yS; omega))⟩
  · refine mv_iconst (v := 1) d_TrustDeskModel_isWell_7 (by decide) ?_
    refine mv_goto (tgt := 12) d_TrustDeskModel_isWell_8 (by decide) ?_
    refine mv_iret d_TrustDeskModel_isWell_12 rfl (by decide) ?_
    refine mv_if_ne_t (tgt := 12) d_TrustDeskModel_compares_8 (by decide) (by decide) ?_
    refine mv_aload_n d_TrustDeskModel_compares_12 rfl rfl ?_
    refine mv_bipush (v := 60) d_TrustDeskModel_compares_13 (by decide) ?_
    obtain ⟨_, b20, -⟩ := I6.1 _ _ t12
    refine mv_callV (kc1 := 0) (ks1 := 0) (kc' := 0) (ks' := 0) (As := [.int 60]) (st9 := [.int 60, .ref o0]) d_TrustDeskModel_compares_15 lV_TrustDeskModel_234 b20 rfl (mj_enter (by decide) (Nat.le_of_ble_eq_true rfl) ?_) rfl (Nat.le_of_ble_eq_true rfl) (Nat.le_of_ble_eq_true rfl) (Nat.le_of_ble_eq_true rfl) (hst := rfl) (fun _ _ _ h => h)
    refine mv_aload_n d_TrustDeskModel_isSign_0 rfl rfl ?_
    obtain ⟨v22, q21⟩ := tm_atI I6 t12 (k := 17) rfl
    refine tr_getK q21 d_TrustDeskModel_isSign_1 f_TrustDeskModel_198_13 ?_
    have := tm_rv q21
    refine mv_iconst (v := 4) d_TrustDeskModel_isSign_4 (by decide) ?_
    have := mz_hi v22
    refine mv_icmp_neZ (tgt := 20) (a := v22.toInt) (b := 4) d_TrustDeskModel_isSign_5 (by decide) rfl (by decide) (fun b23 => ?_) (fun b23 => ?_)
    · refine mv_iconst (v := 0) d_TrustDeskModel_isSign_20 (by decide) ?_
      refine mv_iret d_TrustDeskModel_isSign_21 rfl (by decide) ?_
      refine mv_if_eq_t (tgt := 26) d_TrustDeskModel_compares_18 (by decide) (by decide) ?_
      refine mv_aload_n d_TrustDeskModel_compares_26 rfl rfl ?_
      refine mv_bipush (v := 62) d_TrustDeskModel_compares_27 (by decide) ?_
      obtain ⟨_, b24, -⟩ := I6.1 _ _ t12
      refine mv_callV (kc1 := 0) (ks1 := 0) (kc' := 0) (ks' := 0) (As := [.int 62]) (st9 := [.int 62, .ref o0]) d_TrustDeskModel_compares_29 lV_TrustDeskModel_234 b24 rfl (mj_enter (by decide) (Nat.le_of_ble_eq_true rfl) ?_) rfl (Nat.le_of_ble_eq_true rfl) (Nat.le_of_ble_eq_true rfl) (Nat.le_of_ble_eq_true rfl) (hst := rfl) (fun _ _ _ h => h)
      refine mv_aload_n d_TrustDeskModel_isSign_0 rfl rfl ?_
      refine tr_getK (k := 17) q21 d_TrustDeskModel_isSign_1 f_TrustDeskModel_198_13 ?_
      refine mv_iconst (v := 4) d_TrustDeskModel_isSign_4 (by decide) ?_
      have := mz_hi v22
      refine mv_icmp_neZ (tgt := 20) (a := v22.toInt) (b := 4) d_TrustDeskModel_isSign_5 (by decide) rfl (by decide) (fun b25 => ?_) (fun b25 => absurd b25 (by omega))
      refine mv_iconst (v := 0) d_TrustDeskModel_isSign_20 (by decide) ?_
      refine mv_iret d_TrustDeskModel_isSign_21 rfl (by decide) ?_
      refine mv_if_eq_t (tgt := 40) d_TrustDeskModel_compares_32 (by decide) (by decide) ?_
      refine mv_aload_n d_TrustDeskModel_compares_40 rfl rfl ?_
      refine mv_bipush (v := 61) d_TrustDeskModel_compares_41 (by decide) ?_
      obtain ⟨_, b26, -⟩ := I6.1 _ _ t12
      refine mv_callV (kc1 := 0) (ks1 := 0) (kc' := 0) (ks' := 0) (As := [.int 61]) (st9 := [.int 61, .ref o0]) d_TrustDeskModel_compares_43 lV_TrustDeskModel_234 b26 rfl (mj_enter (by decide) (Nat.le_of_ble_eq_true rfl) ?_) rfl (Nat.le_of_ble_eq_true rfl) (Nat.le_of_ble_eq_true rfl) (Nat.le_of_ble_eq_true rfl) (hst := rfl) (fun _ _ _ h => h)
      refine mv_aload_n d_TrustDeskModel_isSign_0 rfl rfl ?_
      refine tr_getK (k := 17) q21 d_TrustDeskModel_isSign_1 f_TrustDeskModel_198_13 ?_
      refine mv_iconst (v := 4) d_TrustDeskModel_isSign_4 (by decide) ?_
      have := mz_hi v22
      refine mv_icmp_neZ (tgt := 20) (a := v22.toInt) (b := 4) d_TrustDeskModel_isSign_5 (by decide) rfl (by decide) (fun b27 => ?_) (fun b27 => absurd b27 (by omega))
      refine mv_iconst (v := 0) d_TrustDeskModel_isSign_20 (by decide) ?_
      refine mv_iret d_TrustDeskModel_isSign_21 rfl (by decide) ?_
      refine mv_if_eq_t (tgt := 54) d_TrustDeskModel_compares_46 (by decide) (by decide) ?_
      refine mv_iconst (v := 0) d_TrustDeskModel_compares_54 (by decide) ?_
      refine mv_istore_n (lv' := [(1, .int 0), (0, .ref o0)]) d_TrustDeskModel_compares_55 rfl (by decide) rfl ?_
      refine mv_iload_n d_TrustDeskModel_compares_56 rfl rfl ?_
      refine mv_if_ne_f (tgt := 65) d_TrustDeskModel_compares_57 (by decide) (by decide) ?_
      refine mv_aload_n d_TrustDeskModel_compares_60 rfl rfl ?_
      refine mv_iconst (v := 1) d_TrustDeskModel_compares_61 (by decide) ?_
      obtain ⟨_, b34, -⟩ := I6.1 _ _ t12
      have : (1 : Int32).toInt = 1 := by decide
      refine mv_callV (kc' := 0) (ks' := 0) (As := [.int 1]) (st9 := [.int 1, .ref o0]) d_TrustDeskModel_compares_62 lV_TrustDeskModel_240 b34 rfl (tc_TrustDeskModel_fails_x (d := (d + 8)) (x9 := x9) (o0 := o0) (x1 := 1) t12 R8 (by decide) f11 I6.start) rfl (Nat.le_of_ble_eq_true rfl) (Nat.le_of_ble_eq_true rfl) (Nat.le_of_ble_eq_true rfl) (hst := rfl) (fun b28r M29 n30 b28 => ?_)
      obtain ⟨T31, J32, rfl, R35, f36, f37⟩ := b28
      have I33 := I6.call J32 (tm_sub (by decide)) (Or.inl rfl)
      have t38 := J32.up t12
      have z39 := (rv_c I6 J32 (I6.up h_o0) (k := 16) rfl)
      have z40 := (rv_c I6 J32 (I6.up h_o0) (k := 17) rfl)
      have z41 := (rv_c I6 J32 (I6.up h_o0) (k := 22) rfl)
      have E42 : rE M0 M29 o0 1 0 := E13.fails (rE_hv I6 J32 (I6.up h_o0) 15 18 (by decide)) (rE_ha I6 J32 (I6.up h_o0) (by decide)) f36 1 0
      rw [show (1 : Int32).toInt = 1 from by decide] at f37
      obtain ⟨s43, e44⟩ : ∃ s9 : p_S, p_fl pb pn 1 s14 = s9 := ⟨_, rfl⟩
      rw [e44] at f37
      have := f37.w
      have q45 := J32.keep t12 (by decide) q21
      refine mv_aload_n d_TrustDeskModel_compares_65 rfl rfl ?_
      obtain ⟨_, b46, -⟩ := I33.1 _ _ t38
      refine mv_callV (kc1 := 0) (ks1 := 0) (kc' := 0) (ks' := 0) (As := []) (st9 := [.ref o0]) d_TrustDeskModel_compares_66 lV_TrustDeskModel_230 b46 rfl (mj_enter (by decide) (Nat.le_of_ble_eq_true rfl) ?_) rfl (Nat.le_of_ble_eq_true rfl) (Nat.le_of_ble_eq_true rfl) (Nat.le_of_ble_eq_true rfl) (hst := rfl) (fun _ _ _ h => h)
      refine mv_aload_n d_TrustDeskModel_isWell_0 rfl rfl ?_
      obtain ⟨v48, q47⟩ := tm_atI I33 t38 (k := 19) rfl
      refine tr_getK q47 d_TrustDeskModel_isWell_1 f_TrustDeskModel_224_13 ?_
      have := R35.f (k := 19) q47 rfl
      have := tm_rv q47
      have := mz_hi v48
      refine mv_if_neZ (tgt := 11) (a := v48.toInt) d_TrustDeskModel_isWell_4 (by decide) rfl (fun b49 => ?_) (fun b49 => ?_)
      · refine mv_iconst (v := 0) d_TrustDeskModel_isWell_11 (by decide) ?_
        refine mv_iret d_TrustDeskModel_isWell_12 rfl (by decide) ?_
        refine mv_if_ne_f (tgt := 73) d_TrustDeskModel_compares_69 (by decide) (by decide) ?_
        exact mv_vret d_TrustDeskModel_compares_72 rfl ⟨_, I33, rfl, R35, E42, (by have := R35.1 15 _ _ rfl; have := R35.1 16 _ _ rfl; have := R35.1 19 _ _ rfl; have := E42.f yS; omega), (by first | (have := f11.n4 (by omega) (by omega); rw [show p_cmp pb pn pa 0 ps = s43 from (by unfold p_cmp; (try simp only [e15, e44]); ((repeat' (first | (with_reducible rfl) | split)) <;> (exfalso; omega)))]; exact f37) | (exfalso; have := R35.1 15 _ _ rfl; have := R35.1 16 _ _ rfl; have := R35.1 19 _ _ rfl; have := E42.f yS; omega))⟩
      · refine mv_iconst (v := 1) d_TrustDeskModel_isWell_7 (by decide) ?_
        refine mv_goto (tgt := 12) d_TrustDeskModel_isWell_8 (by decide) ?_
        refine mv_iret d_TrustDeskModel_isWell_12 rfl (by decide) ?_
        refine mv_if_ne_t (tgt := 73) d_TrustDeskModel_compares_69 (by decide) (by decide) ?_
        refine mv_aload_n d_TrustDeskModel_compares_73 rfl rfl ?_
        obtain ⟨_, b56, -⟩ := I33.1 _ _ t38
        refine mv_callV (kc' := 0) (ks' := 0) (As := []) (st9 := [.ref o0]) d_TrustDeskModel_compares_74 lV_TrustDeskModel_237 b56 rfl (tc_TrustDeskModel_next_x (d := (d + 7)) (x9 := x9) (o0 := o0) t38 R35 f37.p I33.start) rfl (Nat.le_of_ble_eq_true rfl) (Nat.le_of_ble_eq_true rfl) (Nat.le_of_ble_eq_true rfl) (hst := rfl) (fun b50r M51 n52 b50 => ?_)
        obtain ⟨T53, J54, rfl, R57, f58, f59, f60⟩ := b50
        have I55 := I33.call J54 (tm_sub (by decide)) (Or.inl rfl)
        have t61 := J54.up t38
        have z62 := (rv_c I33 J54 (I33.up h_o0) (k := 19) rfl)
        have z63 := (rv_c I33 J54 (I33.up h_o0) (k := 22) rfl).trans z41
        have h65 : rv M29 o0 16 + 1 ≤ rv M29 o0 15 := (by have := R35.1 15 _ _ rfl; have := R35.1 16 _ _ rfl; have := R35.1 19 _ _ rfl; have := E42.f yS; omega)
        have E64 : rE M0 M51 o0 1 1 := E42.next f58 f59 (rv_c I33 J54 (I33.up h_o0) (k := 19) rfl) (rE_ha I33 J54 (I33.up h_o0) (by decide)) (e := 1) h65 (by decide)
        obtain ⟨s66, e67⟩ : ∃ s9 : p_S, p_nx s43 = s9 := ⟨_, rfl⟩
        rw [e67] at f60
        have := f60.w
        clear z41
        have q68 := J54.keep t38 (by decide) q47
        refine mv_aload_n d_TrustDeskModel_compares_77 rfl rfl ?_
        obtain ⟨_, b75, -⟩ := I55.1 _ _ t61
        refine mv_callV (kc' := 0) (ks' := 0) (As := []) (st9 := [.ref o0]) d_TrustDeskModel_compares_78 lV_TrustDeskModel_288 b75 rfl (tc_TrustDeskModel_sum_q1_x (d := d) (x9 := x9) (o0 := o0) t61 R57 E64.1 (by have := R57.1 15 _ _ rfl; have := R57.1 16 _ _ rfl; have := R57.1 19 _ _ rfl; have := E64.f yS; omega) (by have := R57.1 15 _ _ rfl; have := R57.1 16 _ _ rfl; have := R57.1 19 _ _ rfl; have := E64.f yS; omega) f60 I55.start) rfl (Nat.le_of_ble_eq_true rfl) (Nat.le_of_ble_eq_true rfl) (Nat.le_of_ble_eq_true rfl) (hst := rfl) (fun b69r M70 n71 b69 => ?_)
        obtain ⟨T72, J73, rfl, R76, f77, f78, f79⟩ := b69
        have I74 := I55.call J73 (tm_sub (by decide)) (Or.inl rfl)
        have t80 := J73.up t61
        have E81 : rE M0 M70 o0 2 1 := E64.trans f77 (by decide) (yR.2 5 _ _ rfl 44).1 (by decide) (by decide)
        have := f77.w
        obtain ⟨s82, e83⟩ : ∃ s9 : p_S, p_sum pb pn pa (p_op pb pn pa 0) s66 = s9 := ⟨_, rfl⟩
        rw [e83] at f79
        have := f79.w
        refine mv_aload_n d_TrustDeskModel_compares_81 rfl rfl ?_
        refine mv_iload_n d_TrustDeskModel_compares_82 rfl rfl ?_
        obtain ⟨_, b90, -⟩ := I74.1 _ _ t80
        have : (0 : Int32).toInt = 0 := by decide
        refine mv_callV (kc' := 0) (ks' := 0) (As := [.int 0]) (st9 := [.int 0, .ref o0]) d_TrustDeskModel_compares_83 lV_TrustDeskModel_279 b90 rfl (tc_TrustDeskModel_emits_x (d := (d + 7)) (x9 := x9) (o0 := o0) (x1 := 0) t80 R76 (by have := R76.1 15 _ _ rfl; have := R76.1 16 _ _ rfl; have := R76.1 19 _ _ rfl; have := E81.f yS; omega) (by decide) I74.start) rfl (Nat.le_of_ble_eq_true rfl) (Nat.le_of_ble_eq_true rfl) (Nat.le_of_ble_eq_true rfl) (hst := rfl) (fun b84r M85 n86 b84 => ?_)
        obtain ⟨T87, J88, rfl, R91, f92⟩ := b84
        have I89 := I74.call J88 (tm_sub (by decide)) (Or.inl rfl)
        have t93 := J88.up t80
        have z94 := (rv_c I74 J88 (I74.up h_o0) (k := 16) rfl)
        have z95 := (rv_c I74 J88 (I74.up h_o0) (k := 17) rfl)
        have z96 := (rv_c I74 J88 (I74.up h_o0) (k := 19) rfl)
        have z97 := (rv_c I74 J88 (I74.up h_o0) (k := 22) rfl)
        have E98 : rE M0 M85 o0 3 0 := E81.emit f92 (rE_hv I74 J88 (I74.up h_o0) 15 19 (by decide)) (yR.2 5 _ _ rfl 44).1 (by decide) (Or.inl ⟨by have := R76.1 15 _ _ rfl; have := R76.1 16 _ _ rfl; have := R76.1 19 _ _ rfl; have := E81.f yS; omega, by decide⟩) (by decide)
        have Z999 : pO M85 o0 pb pn pa s82 := f79.same (rE_hv I74 J88 (I74.up h_o0) 14 20 (by decide)) (rv_c I74 J88 (I74.up h_o0) (k := 23) rfl) (ra_call I74 J88 (I74.up h_o0) (k := 13) rfl rfl rfl)
        exact mv_vret d_TrustDeskModel_compares_86 rfl ⟨_, I89, rfl, R91, E98.vac (by have := R91.1 15 _ _ rfl; have := R91.1 16 _ _ rfl; have := R91.1 19 _ _ rfl; have := E98.f yS; omega) 1 0, (by have := R91.1 15 _ _ rfl; have := R91.1 16 _ _ rfl; have := R91.1 19 _ _ rfl; have := E98.f yS; omega), (by first | (have := f11.n4 (by omega) (by omega); rw [show p_cmp pb pn pa 0 ps = s82 from (by unfold p_cmp; (try simp only [e15, e44, e67, e83]); ((repeat' (first | (with_reducible rfl) | split)) <;> (exfalso; omega)))]; exact Z999) | (exfalso; have := R91.1 15 _ _ rfl; have := R91.1 16 _ _ rfl; have := R91.1 19 _ _ rfl; have := E98.f yS; omega))⟩
    · refine mv_aload_n d_TrustDeskModel_isSign_8 rfl rfl ?_
      obtain ⟨v101, q100⟩ := tm_atI I6 t12 (k := 18) rfl
      refine tr_getK q100 d_TrustDeskModel_isSign_9 f_TrustDeskModel_201_13 ?_
      have := R8.f (k := 18) q100 rfl
      have := tm_rv q100
      refine mv_iload_n d_TrustDeskModel_isSign_12 rfl rfl ?_
      have := mz_hi v101
      refine mv_icmp_neZ (tgt := 20) (a := v101.toInt) (b := 60) d_TrustDeskModel_isSign_13 (by decide) rfl (by decide) (fun b102 => ?_) (fun b102 => ?_)
      · refine mv_iconst (v := 0) d_TrustDeskModel_isSign_20 (by decide) ?_
        refine mv_iret d_TrustDeskModel_isSign_21 rfl (by decide) ?_
        refine mv_if_eq_t (tgt := 26) d_TrustDeskModel_compares_18 (by decide) (by decide) ?_
        refine mv_aload_n d_TrustDeskModel_compares_26 rfl rfl ?_
        refine mv_bipush (v := 62) d_TrustDeskModel_compares_27 (by decide) ?_
        obtain ⟨_, b103, -⟩ := I6.1 _ _ t12
        refine mv_callV (kc1 := 0) (ks1 := 0) (kc' := 0) (ks' := 0) (As := [.int 62]) (st9 := [.int 62, .ref o0]) d_TrustDeskModel_compares_29 lV_TrustDeskModel_234 b103 rfl (mj_enter (by decide) (Nat.le_of_ble_eq_true rfl) ?_) rfl (Nat.le_of_ble_eq_true rfl) (Nat.le_of_ble_eq_true rfl) (Nat.le_of_ble_eq_true rfl) (hst := rfl) (fun _ _ _ h => h)
        refine mv_aload_n d_TrustDeskModel_isSign_0 rfl rfl ?_
        refine tr_getK (k := 17) q21 d_TrustDeskModel_isSign_1 f_TrustDeskModel_198_13 ?_
        refine mv_iconst (v := 4) d_TrustDeskModel_isSign_4 (by decide) ?_
        have := mz_hi v22
        refine mv_icmp_neZ (tgt := 20) (a := v22.toInt) (b := 4) d_TrustDeskModel_isSign_5 (by decide) rfl (by decide) (fun b104 => absurd b104 (by omega)) (fun b104 => ?_)
        refine mv_aload_n d_TrustDeskModel_isSign_8 rfl rfl ?_
        refine tr_getK (k := 18) q100 d_TrustDeskModel_isSign_9 f_TrustDeskModel_201_13 ?_
        refine mv_iload_n d_TrustDeskModel_isSign_12 rfl rfl ?_
        have := mz_hi v101
        refine mv_icmp_neZ (tgt := 20) (a := v101.toInt) (b := 62) d_TrustDeskModel_isSign_13 (by decide) rfl (by decide) (fun b105 => ?_) (fun b105 => ?_)
        · refine mv_iconst (v := 0) d_TrustDeskModel_isSign_20 (by decide) ?_
          refine mv_iret d_TrustDeskModel_isSign_21 rfl (by decide) ?_
          refine mv_if_eq_t (tgt := 40) d_TrustDeskModel_compares_32 (by decide) (by decide) ?_
          refine mv_aload_n d_TrustDeskModel_compares_40 rfl rfl ?_
          refine mv_bipush (v := 61) d_TrustDeskModel_compares_41 (by decide) ?_
          obtain ⟨_, b106, -⟩ := I6.1 _ _ t12
          refine mv_callV (kc1 := 0) (ks1 := 0) (kc' := 0) (ks' := 0) (As := [.int 61]) (st9 := [.int 61, .ref o0]) d_TrustDeskModel_compares_43 lV_TrustDeskModel_234 b106 rfl (mj_enter (by decide) (Nat.le_of_ble_eq_true rfl) ?_) rfl (Nat.le_of_ble_eq_true rfl) (Nat.le_of_ble_eq_true rfl) (Nat.le_of_ble_eq_true rfl) (hst := rfl) (fun _ _ _ h => h)
          refine mv_aload_n d_TrustDeskModel_isSign_0 rfl rfl ?_
          refine tr_getK (k := 17) q21 d_TrustDeskModel_isSign_1 f_TrustDeskModel_198_13 ?_
          refine mv_iconst (v := 4) d_TrustDeskModel_isSign_4 (by decide) ?_
          have := mz_hi v22
          refine mv_icmp_neZ (tgt := 20) (a := v22.toInt) (b := 4) d_TrustDeskModel_isSign_5 (by decide) rfl (by decide) (fun b107 => absurd b107 (by omega)) (fun b107 => ?_)
          refine mv_aload_n d_TrustDeskModel_isSign_8 rfl rfl ?_
          refine tr_getK (k := 18) q100 d_TrustDeskModel_isSign_9 f_TrustDeskModel_201_13 ?_
          refine mv_iload_n d_TrustDeskModel_isSign_12 rfl rfl ?_
          have := mz_hi v101
          refine mv_icmp_neZ (tgt := 20) (a := v101.toInt) (b := 61) d_TrustDeskModel_isSign_13 (by decide) rfl (by decide) (fun b108 => ?_) (fun b108 => ?_)
          · refine mv_iconst (v := 0) d_TrustDeskModel_isSign_20 (by decide) ?_
            refine mv_iret d_TrustDeskModel_isSign_21 rfl (by decide) ?_
            refine mv_if_eq_t (tgt := 54) d_TrustDeskModel_compares_46 (by decide) (by decide) ?_
            refine mv_iconst (v := 0) d_TrustDeskModel_compares_54 (by decide) ?_
            refine mv_istore_n (lv' := [(1, .int 0), (0, .ref o0)]) d_TrustDeskModel_compares_55 rfl (by decide) rfl ?_
            refine mv_iload_n d_TrustDeskModel_compares_56 rfl rfl ?_
            refine mv_if_ne_f (tgt := 65) d_TrustDeskModel_compares_57 (by decide) (by decide) ?_
            refine mv_aload_n d_TrustDeskModel_compares_60 rfl rfl ?_
            refine mv_iconst (v := 1) d_TrustDeskModel_compares_61 (by decide) ?_
            obtain ⟨_, b115, -⟩ := I6.1 _ _ t12
            have : (1 : Int32).toInt = 1 := by decide
            refine mv_callV (kc' := 0) (ks' := 0) (As := [.int 1]) (st9 := [.int 1, .ref o0]) d_TrustDeskModel_compares_62 lV_TrustDeskModel_240 b115 rfl (tc_TrustDeskModel_fails_x (d := (d + 8)) (x9 := x9) (o0 := o0) (x1 := 1) t12 R8 (by decide) f11 I6.start) rfl (Nat.le_of_ble_eq_true rfl) (Nat.le_of_ble_eq_true rfl) (Nat.le_of_ble_eq_true rfl) (hst := rfl) (fun b109r M110 n111 b109 => ?_)
            obtain ⟨T112, J113, rfl, R116, f117, f118⟩ := b109
            have I114 := I6.call J113 (tm_sub (by decide)) (Or.inl rfl)
            have t119 := J113.up t12
            have z120 := (rv_c I6 J113 (I6.up h_o0) (k := 16) rfl)
            have z121 := (rv_c I6 J113 (I6.up h_o0) (k := 17) rfl)
            have z122 := (rv_c I6 J113 (I6.up h_o0) (k := 22) rfl)
            have E123 : rE M0 M110 o0 1 0 := E13.fails (rE_hv I6 J113 (I6.up h_o0) 15 18 (by decide)) (rE_ha I6 J113 (I6.up h_o0) (by decide)) f117 1 0
            rw [show (1 : Int32).toInt = 1 from by decide] at f118
            obtain ⟨s124, e125⟩ : ∃ s9 : p_S, p_fl pb pn 1 s14 = s9 := ⟨_, rfl⟩
            rw [e125] at f118
            have := f118.w
            have q126 := J113.keep t12 (by decide) q21
            have q127 := J113.keep t12 (by decide) q100
            refine mv_aload_n d_TrustDeskModel_compares_65 rfl rfl ?_
            obtain ⟨_, b128, -⟩ := I114.1 _ _ t119
            refine mv_callV (kc1 := 0) (ks1 := 0) (kc' := 0) (ks' := 0) (As := []) (st9 := [.ref o0]) d_TrustDeskModel_compares_66 lV_TrustDeskModel_230 b128 rfl (mj_enter (by decide) (Nat.le_of_ble_eq_true rfl) ?_) rfl (Nat.le_of_ble_eq_true rfl) (Nat.le_of_ble_eq_true rfl) (Nat.le_of_ble_eq_true rfl) (hst := rfl) (fun _ _ _ h => h)
            refine mv_aload_n d_TrustDeskModel_isWell_0 rfl rfl ?_
            obtain ⟨v130, q129⟩ := tm_atI I114 t119 (k := 19) rfl
            refine tr_getK q129 d_TrustDeskModel_isWell_1 f_TrustDeskModel_224_13 ?_
            have := R116.f (k := 19) q129 rfl
            have := tm_rv q129
            have := mz_hi v130
            refine mv_if_neZ (tgt := 11) (a := v130.toInt) d_TrustDeskModel_isWell_4 (by decide) rfl (fun b131 => ?_) (fun b131 => ?_)
            · refine mv_iconst (v := 0) d_TrustDeskModel_isWell_11 (by decide) ?_
              refine mv_iret d_TrustDeskModel_isWell_12 rfl (by decide) ?_
              refine mv_if_ne_f (tgt := 73) d_TrustDeskModel_compares_69 (by decide) (by decide) ?_
              exact mv_vret d_TrustDeskModel_compares_72 rfl ⟨_, I114, rfl, R116, E123, (by have := R116.1 15 _ _ rfl; have := R116.1 16 _ _ rfl; have := R116.1 19 _ _ rfl; have := E123.f yS; omega), (by first | (have := f11.s4 (by omega) (by omega); rw [show p_cmp pb pn pa 0 ps = s124 from (by unfold p_cmp; (try simp only [e15, e125]); ((repeat' (first | (with_reducible rfl) | split)) <;> (exfalso; omega)))]; exact f118) | (exfalso; have := R116.1 15 _ _ rfl; have := R116.1 16 _ _ rfl; have := R116.1 19 _ _ rfl; have := E123.f yS; omega))⟩
            · refine mv_iconst (v := 1) d_TrustDeskModel_isWell_7 (by decide) ?_
              refine mv_goto (tgt := 12) d_TrustDeskModel_isWell_8 (by decide) ?_
              refine mv_iret d_TrustDeskModel_isWell_12 rfl (by decide) ?_
              refine mv_if_ne_t (tgt := 73) d_TrustDeskModel_compares_69 (by decide) (by decide) ?_
              refine mv_aload_n d_TrustDeskModel_compares_73 rfl rfl ?_
              obtain ⟨_, b138, -⟩ := I114.1 _ _ t119
              refine mv_callV (kc' := 0) (ks' := 0) (As := []) (st9 := [.ref o0]) d_TrustDeskModel_compares_74 lV_TrustDeskModel_237 b138 rfl (tc_TrustDeskModel_next_x (d := (d + 7)) (x9 := x9) (o0 := o0) t119 R116 f118.p I114.start) rfl (Nat.le_of_ble_eq_true rfl) (Nat.le_of_ble_eq_true rfl) (Nat.le_of_ble_eq_true rfl) (hst := rfl) (fun b132r M133 n134 b132 => ?_)
              obtain ⟨T135, J136, rfl, R139, f140, f141, f142⟩ := b132
              have I137 := I114.call J136 (tm_sub (by decide)) (Or.inl rfl)
              have t143 := J136.up t119
              have z144 := (rv_c I114 J136 (I114.up h_o0) (k := 19) rfl)
              have z145 := (rv_c I114 J136 (I114.up h_o0) (k := 22) rfl).trans z122
              have h147 : rv M110 o0 16 + 1 ≤ rv M110 o0 15 := (by have := R116.1 15 _ _ rfl; have := R116.1 16 _ _ rfl; have := R116.1 19 _ _ rfl; have := E123.f yS; omega)
              have E146 : rE M0 M133 o0 1 1 := E123.next f140 f141 (rv_c I114 J136 (I114.up h_o0) (k := 19) rfl) (rE_ha I114 J136 (I114.up h_o0) (by decide)) (e := 1) h147 (by decide)
              obtain ⟨s148, e149⟩ : ∃ s9 : p_S, p_nx s124 = s9 := ⟨_, rfl⟩
              rw [e149] at f142
              have := f142.w
              clear z122
              have q150 := J136.keep t119 (by decide) q129
              refine mv_aload_n d_TrustDeskModel_compares_77 rfl rfl ?_
              obtain ⟨_, b157, -⟩ := I137.1 _ _ t143
              refine mv_callV (kc' := 0) (ks' := 0) (As := []) (st9 := [.ref o0]) d_TrustDeskModel_compares_78 lV_TrustDeskModel_288 b157 rfl (tc_TrustDeskModel_sum_q1_x (d := d) (x9 := x9) (o0 := o0) t143 R139 E146.1 (by have := R139.1 15 _ _ rfl; have := R139.1 16 _ _ rfl; have := R139.1 19 _ _ rfl; have := E146.f yS; omega) (by have := R139.1 15 _ _ rfl; have := R139.1 16 _ _ rfl; have := R139.1 19 _ _ rfl; have := E146.f yS; omega) f142 I137.start) rfl (Nat.le_of_ble_eq_true rfl) (Nat.le_of_ble_eq_true rfl) (Nat.le_of_ble_eq_true rfl) (hst := rfl) (fun b151r M152 n153 b151 => ?_)
              obtain ⟨T154, J155, rfl, R158, f159, f160, f161⟩ := b151
              have I156 := I137.call J155 (tm_sub (by decide)) (Or.inl rfl)
              have t162 := J155.up t143
              have E163 : rE M0 M152 o0 2 1 := E146.trans f159 (by decide) (yR.2 5 _ _ rfl 44).1 (by decide) (by decide)
              have := f159.w
              obtain ⟨s164, e165⟩ : ∃ s9 : p_S, p_sum pb pn pa (p_op pb pn pa 0) s148 = s9 := ⟨_, rfl⟩
              rw [e165] at f161
              have := f161.w
              refine mv_aload_n d_TrustDeskModel_compares_81 rfl rfl ?_
              refine mv_iload_n d_TrustDeskModel_compares_82 rfl rfl ?_
              obtain ⟨_, b172, -⟩ := I156.1 _ _ t162
              have : (0 : Int32).toInt = 0 := by decide
              refine mv_callV (kc' := 0) (ks' := 0) (As := [.int 0]) (st9 := [.int 0, .ref o0]) d_TrustDeskModel_compares_83 lV_TrustDeskModel_279 b172 rfl (tc_TrustDeskModel_emits_x (d := (d + 7)) (x9 := x9) (o0 := o0) (x1 := 0) t162 R158 (by have := R158.1 15 _ _ rfl; have := R158.1 16 _ _ rfl; have := R158.1 19 _ _ rfl; have := E163.f yS; omega) (by decide) I156.start) rfl (Nat.le_of_ble_eq_true rfl) (Nat.le_of_ble_eq_true rfl) (Nat.le_of_ble_eq_true rfl) (hst := rfl) (fun b166r M167 n168 b166 => ?_)
              obtain ⟨T169, J170, rfl, R173, f174⟩ := b166
              have I171 := I156.call J170 (tm_sub (by decide)) (Or.inl rfl)
              have t175 := J170.up t162
              have z176 := (rv_c I156 J170 (I156.up h_o0) (k := 16) rfl)
              have z177 := (rv_c I156 J170 (I156.up h_o0) (k := 17) rfl)
              have z178 := (rv_c I156 J170 (I156.up h_o0) (k := 19) rfl)
              have z179 := (rv_c I156 J170 (I156.up h_o0) (k := 22) rfl)
              have E180 : rE M0 M167 o0 3 0 := E163.emit f174 (rE_hv I156 J170 (I156.up h_o0) 15 19 (by decide)) (yR.2 5 _ _ rfl 44).1 (by decide) (Or.inl ⟨by have := R158.1 15 _ _ rfl; have := R158.1 16 _ _ rfl; have := R158.1 19 _ _ rfl; have := E163.f yS; omega, by decide⟩) (by decide)
              have Z9181 : pO M167 o0 pb pn pa s164 := f161.same (rE_hv I156 J170 (I156.up h_o0) 14 20 (by decide)) (rv_c I156 J170 (I156.up h_o0) (k := 23) rfl) (ra_call I156 J170 (I156.up h_o0) (k := 13) rfl rfl rfl)
              exact mv_vret d_TrustDeskModel_compares_86 rfl ⟨_, I171, rfl, R173, E180.vac (by have := R173.1 15 _ _ rfl; have := R173.1 16 _ _ rfl; have := R173.1 19 _ _ rfl; have := E180.f yS; omega) 1 0, (by have := R173.1 15 _ _ rfl; have := R173.1 16 _ _ rfl; have := R173.1 19 _ _ rfl; have := E180.f yS; omega), (by first | (have := f11.s4 (by omega) (by omega); rw [show p_cmp pb pn pa 0 ps = s164 from (by unfold p_cmp; (try simp only [e15, e125, e149, e165]); ((repeat' (first | (with_reducible rfl) | split)) <;> (exfalso; omega)))]; exact Z9181) | (exfalso; have := R173.1 15 _ _ rfl; have := R173.1 16 _ _ rfl; have := R173.1 19 _ _ rfl; have := E180.f yS; omega))⟩
          · refine mv_iconst (v := 1) d_TrustDeskModel_isSign_16 (by decide) ?_
            refine mv_goto (tgt := 21) d_TrustDeskModel_isSign_17 (by decide) ?_
            refine mv_iret d_TrustDeskModel_isSign_21 rfl (by decide) ?_
            refine mv_if_eq_f (tgt := 54) d_TrustDeskModel_compares_46 (by decide) (by decide) ?_
            refine mv_bipush (v := (-6)) d_TrustDeskModel_compares_49 (by decide) ?_
            refine mv_goto (tgt := 55) d_TrustDeskModel_compares_51 (by decide) ?_
            refine mv_istore_n (lv' := [(1, .int (-6)), (0, .ref o0)]) d_TrustDeskModel_compares_55 rfl (by decide) rfl ?_
            refine mv_iload_n d_TrustDeskModel_compares_56 rfl rfl ?_
            refine mv_if_ne_t (tgt := 65) d_TrustDeskModel_compares_57 (by decide) (by decide) ?_
            refine mv_aload_n d_TrustDeskModel_compares_65 rfl rfl ?_
            obtain ⟨_, b182, -⟩ := I6.1 _ _ t12
            refine mv_callV (kc1 := 0) (ks1 := 0) (kc' := 0) (ks' := 0) (As := []) (st9 := [.ref o0]) d_TrustDeskModel_compares_66 lV_TrustDeskModel_230 b182 rfl (mj_enter (by decide) (Nat.le_of_ble_eq_true rfl) ?_) rfl (Nat.le_of_ble_eq_true rfl) (Nat.le_of_ble_eq_true rfl) (Nat.le_of_ble_eq_true rfl) (hst := rfl) (fun _ _ _ h => h)
            refine mv_aload_n d_TrustDeskModel_isWell_0 rfl rfl ?_
            refine tr_getK (k := 19) q17 d_TrustDeskModel_isWell_1 f_TrustDeskModel_224_13 ?_
            have := mz_hi v18
            refine mv_if_neZ (tgt := 11) (a := v18.toInt) d_TrustDeskModel_isWell_4 (by decide) rfl (fun b183 => absurd b183 (by omega)) (fun b183 => ?_)
            refine mv_iconst (v := 1) d_TrustDeskModel_isWell_7 (by decide) ?_
            refine mv_goto (tgt := 12) d_TrustDeskModel_isWell_8 (by decide) ?_
            refine mv_iret d_TrustDeskModel_isWell_12 rfl (by decide) ?_
            refine mv_if_ne_t (tgt := 73) d_TrustDeskModel_compares_69 (by decide) (by decide) ?_
            refine mv_aload_n d_TrustDeskModel_compares_73 rfl rfl ?_
            obtain ⟨_, b190, -⟩ := I6.1 _ _ t12
            refine mv_callV (kc' := 0) (ks' := 0) (As := []) (st9 := [.ref o0]) d_TrustDeskModel_compares_74 lV_TrustDeskModel_237 b190 rfl (tc_TrustDeskModel_next_x (d := (d + 7)) (x9 := x9) (o0 := o0) t12 R8 f11.p I6.start) rfl (Nat.le_of_ble_eq_true rfl) (Nat.le_of_ble_eq_true rfl) (Nat.le_of_ble_eq_true rfl) (hst := rfl) (fun b184r M185 n186 b184 => ?_)
            obtain ⟨T187, J188, rfl, R191, f192, f193, f194⟩ := b184
            have I189 := I6.call J188 (tm_sub (by decide)) (Or.inl rfl)
            have t195 := J188.up t12
            have z196 := (rv_c I6 J188 (I6.up h_o0) (k := 19) rfl)
            have z197 := (rv_c I6 J188 (I6.up h_o0) (k := 22) rfl)
            have h199 : rv M2 o0 16 + 1 ≤ rv M2 o0 15 := (by have := R8.1 15 _ _ rfl; have := R8.1 16 _ _ rfl; have := R8.1 19 _ _ rfl; have := E13.f yS; omega)
            have E198 : rE M0 M185 o0 1 1 := E13.next f192 f193 (rv_c I6 J188 (I6.up h_o0) (k := 19) rfl) (rE_ha I6 J188 (I6.up h_o0) (by decide)) (e := 1) h199 (by decide)
            obtain ⟨s200, e201⟩ : ∃ s9 : p_S, p_nx s14 = s9 := ⟨_, rfl⟩
            rw [e201] at f194
            have := f194.w
            have q202 := J188.keep t12 (by decide) q17
            refine mv_aload_n d_TrustDeskModel_compares_77 rfl rfl ?_
            obtain ⟨_, b209, -⟩ := I189.1 _ _ t195
            refine mv_callV (kc' := 0) (ks' := 0) (As := []) (st9 := [.ref o0]) d_TrustDeskModel_compares_78 lV_TrustDeskModel_288 b209 rfl (tc_TrustDeskModel_sum_q1_x (d := d) (x9 := x9) (o0 := o0) t195 R191 E198.1 (by have := R191.1 15 _ _ rfl; have := R191.1 16 _ _ rfl; have := R191.1 19 _ _ rfl; have := E198.f yS; omega) (by have := R191.1 15 _ _ rfl; have := R191.1 16 _ _ rfl; have := R191.1 19 _ _ rfl; have := E198.f yS; omega) f194 I189.start) rfl (Nat.le_of_ble_eq_true rfl) (Nat.le_of_ble_eq_true rfl) (Nat.le_of_ble_eq_true rfl) (hst := rfl) (fun b203r M204 n205 b203 => ?_)
            obtain ⟨T206, J207, rfl, R210, f211, f212, f213⟩ := b203
            have I208 := I189.call J207 (tm_sub (by decide)) (Or.inl rfl)
            have t214 := J207.up t195
            have E215 : rE M0 M204 o0 2 1 := E198.trans f211 (by decide) (yR.2 5 _ _ rfl 44).1 (by decide) (by decide)
            have := f211.w
            obtain ⟨s216, e217⟩ : ∃ s9 : p_S, p_sum pb pn pa (p_op pb pn pa 0) s200 = s9 := ⟨_, rfl⟩
            rw [e217] at f213
            have := f213.w
            refine mv_aload_n d_TrustDeskModel_compares_81 rfl rfl ?_
            refine mv_iload_n d_TrustDeskModel_compares_82 rfl rfl ?_
            obtain ⟨_, b224, -⟩ := I208.1 _ _ t214
            have : ((-6) : Int32).toInt = (-6) := by decide
            refine mv_callV (kc' := 0) (ks' := 0) (As := [.int (-6)]) (st9 := [.int (-6), .ref o0]) d_TrustDeskModel_compares_83 lV_TrustDeskModel_279 b224 rfl (tc_TrustDeskModel_emits_x (d := (d + 7)) (x9 := x9) (o0 := o0) (x1 := (-6)) t214 R210 (by have := R210.1 15 _ _ rfl; have := R210.1 16 _ _ rfl; have := R210.1 19 _ _ rfl; have := E215.f yS; omega) (by decide) I208.start) rfl (Nat.le_of_ble_eq_true rfl) (Nat.le_of_ble_eq_true rfl) (Nat.le_of_ble_eq_true rfl) (hst := rfl) (fun b218r M219 n220 b218 => ?_)
            obtain ⟨T221, J222, rfl, R225, f226⟩ := b218
            have I223 := I208.call J222 (tm_sub (by decide)) (Or.inl rfl)
            have t227 := J222.up t214
            have z228 := (rv_c I208 J222 (I208.up h_o0) (k := 16) rfl)
            have z229 := (rv_c I208 J222 (I208.up h_o0) (k := 17) rfl)
            have z230 := (rv_c I208 J222 (I208.up h_o0) (k := 19) rfl)
            have z231 := (rv_c I208 J222 (I208.up h_o0) (k := 22) rfl)
            have E232 : rE M0 M219 o0 1 0 := E215.emit f226 (rE_hv I208 J222 (I208.up h_o0) 15 19 (by decide)) (yR.2 5 _ _ rfl 44).1 (by decide) (Or.inr (Or.inr ⟨by decide, by decide, by decide, by decide⟩)) (by decide)
            have Z9233 : pO M219 o0 pb pn pa s216 := f213.same (rE_hv I208 J222 (I208.up h_o0) 14 20 (by decide)) (rv_c I208 J222 (I208.up h_o0) (k := 23) rfl) (ra_call I208 J222 (I208.up h_o0) (k := 13) rfl rfl rfl)
            exact mv_vret d_TrustDeskModel_compares_86 rfl ⟨_, I223, rfl, R225, E232, (by have := R225.1 15 _ _ rfl; have := R225.1 16 _ _ rfl; have := R225.1 19 _ _ rfl; have := E232.f yS; omega), (by first | (have := f11.s4 (by omega) (by omega); rw [show p_cmp pb pn pa 0 ps = s216 from (by unfold p_cmp; (try simp only [e15, e201, e217]); ((repeat' (first | (with_reducible rfl) | split)) <;> (exfalso; omega)))]; exact Z9233) | (exfalso; have := R225.1 15 _ _ rfl; have := R225.1 16 _ _ rfl; have := R225.1 19 _ _ rfl; have := E232.f yS; omega))⟩
        · refine mv_iconst (v := 1) d_TrustDeskModel_isSign_16 (by decide) ?_
          refine mv_goto (tgt := 21) d_TrustDeskModel_isSign_17 (by decide) ?_
          refine mv_iret d_TrustDeskModel_isSign_21 rfl (by decide) ?_
          refine mv_if_eq_f (tgt := 40) d_TrustDeskModel_compares_32 (by decide) (by decide) ?_
          refine mv_bipush (v := (-5)) d_TrustDeskModel_compares_35 (by decide) ?_
          refine mv_goto (tgt := 55) d_TrustDeskModel_compares_37 (by decide) ?_
          refine mv_istore_n (lv' := [(1, .int (-5)), (0, .ref o0)]) d_TrustDeskModel_compares_55 rfl (by decide) rfl ?_
          refine mv_iload_n d_TrustDeskModel_compares_56 rfl rfl ?_
          refine mv_if_ne_t (tgt := 65) d_TrustDeskModel_compares_57 (by decide) (by decide) ?_
          refine mv_aload_n d_TrustDeskModel_compares_65 rfl rfl ?_
          obtain ⟨_, b234, -⟩ := I6.1 _ _ t12
          refine mv_callV (kc1 := 0) (ks1 := 0) (kc' := 0) (ks' := 0) (As := []) (st9 := [.ref o0]) d_TrustDeskModel_compares_66 lV_TrustDeskModel_230 b234 rfl (mj_enter (by decide) (Nat.le_of_ble_eq_true rfl) ?_) rfl (Nat.le_of_ble_eq_true rfl) (Nat.le_of_ble_eq_true rfl) (Nat.le_of_ble_eq_true rfl) (hst := rfl) (fun _ _ _ h => h)
          refine mv_aload_n d_TrustDeskModel_isWell_0 rfl rfl ?_
          refine tr_getK (k := 19) q17 d_TrustDeskModel_isWell_1 f_TrustDeskModel_224_13 ?_
          have := mz_hi v18
          refine mv_if_neZ (tgt := 11) (a := v18.toInt) d_TrustDeskModel_isWell_4 (by decide) rfl (fun b235 => absurd b235 (by omega)) (fun b235 => ?_)
          refine mv_iconst (v := 1) d_TrustDeskModel_isWell_7 (by decide) ?_
          refine mv_goto (tgt := 12) d_TrustDeskModel_isWell_8 (by decide) ?_
          refine mv_iret d_TrustDeskModel_isWell_12 rfl (by decide) ?_
          refine mv_if_ne_t (tgt := 73) d_TrustDeskModel_compares_69 (by decide) (by decide) ?_
          refine mv_aload_n d_TrustDeskModel_compares_73 rfl rfl ?_
          obtain ⟨_, b242, -⟩ := I6.1 _ _ t12
          refine mv_callV (kc' := 0) (ks' := 0) (As := []) (st9 := [.ref o0]) d_TrustDeskModel_compares_74 lV_TrustDeskModel_237 b242 rfl (tc_TrustDeskModel_next_x (d := (d + 7)) (x9 := x9) (o0 := o0) t12 R8 f11.p I6.start) rfl (Nat.le_of_ble_eq_true rfl) (Nat.le_of_ble_eq_true rfl) (Nat.le_of_ble_eq_true rfl) (hst := rfl) (fun b236r M237 n238 b236 => ?_)
          obtain ⟨T239, J240, rfl, R243, f244, f245, f246⟩ := b236
          have I241 := I6.call J240 (tm_sub (by decide)) (Or.inl rfl)
          have t247 := J240.up t12
          have z248 := (rv_c I6 J240 (I6.up h_o0) (k := 19) rfl)
          have z249 := (rv_c I6 J240 (I6.up h_o0) (k := 22) rfl)
          have h251 : rv M2 o0 16 + 1 ≤ rv M2 o0 15 := (by have := R8.1 15 _ _ rfl; have := R8.1 16 _ _ rfl; have := R8.1 19 _ _ rfl; have := E13.f yS; omega)
          have E250 : rE M0 M237 o0 1 1 := E13.next f244 f245 (rv_c I6 J240 (I6.up h_o0) (k := 19) rfl) (rE_ha I6 J240 (I6.up h_o0) (by decide)) (e := 1) h251 (by decide)
          obtain ⟨s252, e253⟩ : ∃ s9 : p_S, p_nx s14 = s9 := ⟨_, rfl⟩
          rw [e253] at f246
          have := f246.w
          have q254 := J240.keep t12 (by decide) q17
          refine mv_aload_n d_TrustDeskModel_compares_77 rfl rfl ?_
          obtain ⟨_, b261, -⟩ := I241.1 _ _ t247
          refine mv_callV (kc' := 0) (ks' := 0) (As := []) (st9 := [.ref o0]) d_TrustDeskModel_compares_78 lV_TrustDeskModel_288 b261 rfl (tc_TrustDeskModel_sum_q1_x (d := d) (x9 := x9) (o0 := o0) t247 R243 E250.1 (by have := R243.1 15 _ _ rfl; have := R243.1 16 _ _ rfl; have := R243.1 19 _ _ rfl; have := E250.f yS; omega) (by have := R243.1 15 _ _ rfl; have := R243.1 16 _ _ rfl; have := R243.1 19 _ _ rfl; have := E250.f yS; omega) f246 I241.start) rfl (Nat.le_of_ble_eq_true rfl) (Nat.le_of_ble_eq_true rfl) (Nat.le_of_ble_eq_true rfl) (hst := rfl) (fun b255r M256 n257 b255 => ?_)
          obtain ⟨T258, J259, rfl, R262, f263, f264, f265⟩ := b255
          have I260 := I241.call J259 (tm_sub (by decide)) (Or.inl rfl)
          have t266 := J259.up t247
          have E267 : rE M0 M256 o0 2 1 := E250.trans f263 (by decide) (yR.2 5 _ _ rfl 44).1 (by decide) (by decide)
          have := f263.w
          obtain ⟨s268, e269⟩ : ∃ s9 : p_S, p_sum pb pn pa (p_op pb pn pa 0) s252 = s9 := ⟨_, rfl⟩
          rw [e269] at f265
          have := f265.w
          refine mv_aload_n d_TrustDeskModel_compares_81 rfl rfl ?_
          refine mv_iload_n d_TrustDeskModel_compares_82 rfl rfl ?_
          obtain ⟨_, b276, -⟩ := I260.1 _ _ t266
          have : ((-5) : Int32).toInt = (-5) := by decide
          refine mv_callV (kc' := 0) (ks' := 0) (As := [.int (-5)]) (st9 := [.int (-5), .ref o0]) d_TrustDeskModel_compares_83 lV_TrustDeskModel_279 b276 rfl (tc_TrustDeskModel_emits_x (d := (d + 7)) (x9 := x9) (o0 := o0) (x1 := (-5)) t266 R262 (by have := R262.1 15 _ _ rfl; have := R262.1 16 _ _ rfl; have := R262.1 19 _ _ rfl; have := E267.f yS; omega) (by decide) I260.start) rfl (Nat.le_of_ble_eq_true rfl) (Nat.le_of_ble_eq_true rfl) (Nat.le_of_ble_eq_true rfl) (hst := rfl) (fun b270r M271 n272 b270 => ?_)
          obtain ⟨T273, J274, rfl, R277, f278⟩ := b270
          have I275 := I260.call J274 (tm_sub (by decide)) (Or.inl rfl)
          have t279 := J274.up t266
          have z280 := (rv_c I260 J274 (I260.up h_o0) (k := 16) rfl)
          have z281 := (rv_c I260 J274 (I260.up h_o0) (k := 17) rfl)
          have z282 := (rv_c I260 J274 (I260.up h_o0) (k := 19) rfl)
          have z283 := (rv_c I260 J274 (I260.up h_o0) (k := 22) rfl)
          have E284 : rE M0 M271 o0 1 0 := E267.emit f278 (rE_hv I260 J274 (I260.up h_o0) 15 19 (by decide)) (yR.2 5 _ _ rfl 44).1 (by decide) (Or.inr (Or.inr ⟨by decide, by decide, by decide, by decide⟩)) (by decide)
          have Z9285 : pO M271 o0 pb pn pa s268 := f265.same (rE_hv I260 J274 (I260.up h_o0) 14 20 (by decide)) (rv_c I260 J274 (I260.up h_o0) (k := 23) rfl) (ra_call I260 J274 (I260.up h_o0) (k := 13) rfl rfl rfl)
          exact mv_vret d_TrustDeskModel_compares_86 rfl ⟨_, I275, rfl, R277, E284, (by have := R277.1 15 _ _ rfl; have := R277.1 16 _ _ rfl; have := R277.1 19 _ _ rfl; have := E284.f yS; omega), (by first | (have := f11.s4 (by omega) (by omega); rw [show p_cmp pb pn pa 0 ps = s268 from (by unfold p_cmp; (try simp only [e15, e253, e269]); ((repeat' (first | (with_reducible rfl) | split)) <;> (exfalso; omega)))]; exact Z9285) | (exfalso; have := R277.1 15 _ _ rfl; have := R277.1 16 _ _ rfl; have := R277.1 19 _ _ rfl; have := E284.f yS; omega))⟩
      · refine mv_iconst (v := 1) d_TrustDeskModel_isSign_16 (by decide) ?_
        refine mv_goto (tgt := 21) d_TrustDeskModel_isSign_17 (by decide) ?_
        refine mv_iret d_TrustDeskModel_isSign_21 rfl (by decide) ?_
        refine mv_if_eq_f (tgt := 26) d_TrustDeskModel_compares_18 (by decide) (by decide) ?_
        refine mv_bipush (v := (-4)) d_TrustDeskModel_compares_21 (by decide) ?_
        refine mv_goto (tgt := 55) d_TrustDeskModel_compares_23 (by decide) ?_
        refine mv_istore_n (lv' := [(1, .int (-4)), (0, .ref o0)]) d_TrustDeskModel_compares_55 rfl (by decide) rfl ?_
        refine mv_iload_n d_TrustDeskModel_compares_56 rfl rfl ?_
        refine mv_if_ne_t (tgt := 65) d_TrustDeskModel_compares_57 (by decide) (by decide) ?_
        refine mv_aload_n d_TrustDeskModel_compares_65 rfl rfl ?_
        obtain ⟨_, b286, -⟩ := I6.1 _ _ t12
        refine mv_callV (kc1 := 0) (ks1 := 0) (kc' := 0) (ks' := 0) (As := []) (st9 := [.ref o0]) d_TrustDeskModel_compares_66 lV_TrustDeskModel_230 b286 rfl (mj_enter (by decide) (Nat.le_of_ble_eq_true rfl) ?_) rfl (Nat.le_of_ble_eq_true rfl) (Nat.le_of_ble_eq_true rfl) (Nat.le_of_ble_eq_true rfl) (hst := rfl) (fun _ _ _ h => h)
        refine mv_aload_n d_TrustDeskModel_isWell_0 rfl rfl ?_
        refine tr_getK (k := 19) q17 d_TrustDeskModel_isWell_1 f_TrustDeskModel_224_13 ?_
        have := mz_hi v18
        refine mv_if_neZ (tgt := 11) (a := v18.toInt) d_TrustDeskModel_isWell_4 (by decide) rfl (fun b287 => absurd b287 (by omega)) (fun b287 => ?_)
        refine mv_iconst (v := 1) d_TrustDeskModel_isWell_7 (by decide) ?_
        refine mv_goto (tgt := 12) d_TrustDeskModel_isWell_8 (by decide) ?_
        refine mv_iret d_TrustDeskModel_isWell_12 rfl (by decide) ?_
        refine mv_if_ne_t (tgt := 73) d_TrustDeskModel_compares_69 (by decide) (by decide) ?_
        refine mv_aload_n d_TrustDeskModel_compares_73 rfl rfl ?_
        obtain ⟨_, b294, -⟩ := I6.1 _ _ t12
        refine mv_callV (kc' := 0) (ks' := 0) (As := []) (st9 := [.ref o0]) d_TrustDeskModel_compares_74 lV_TrustDeskModel_237 b294 rfl (tc_TrustDeskModel_next_x (d := (d + 7)) (x9 := x9) (o0 := o0) t12 R8 f11.p I6.start) rfl (Nat.le_of_ble_eq_true rfl) (Nat.le_of_ble_eq_true rfl) (Nat.le_of_ble_eq_true rfl) (hst := rfl) (fun b288r M289 n290 b288 => ?_)
        obtain ⟨T291, J292, rfl, R295, f296, f297, f298⟩ := b288
        have I293 := I6.call J292 (tm_sub (by decide)) (Or.inl rfl)
        have t299 := J292.up t12
        have z300 := (rv_c I6 J292 (I6.up h_o0) (k := 19) rfl)
        have z301 := (rv_c I6 J292 (I6.up h_o0) (k := 22) rfl)
        have h303 : rv M2 o0 16 + 1 ≤ rv M2 o0 15 := (by have := R8.1 15 _ _ rfl; have := R8.1 16 _ _ rfl; have := R8.1 19 _ _ rfl; have := E13.f yS; omega)
        have E302 : rE M0 M289 o0 1 1 := E13.next f296 f297 (rv_c I6 J292 (I6.up h_o0) (k := 19) rfl) (rE_ha I6 J292 (I6.up h_o0) (by decide)) (e := 1) h303 (by decide)
        obtain ⟨s304, e305⟩ : ∃ s9 : p_S, p_nx s14 = s9 := ⟨_, rfl⟩
        rw [e305] at f298
        have := f298.w
        have q306 := J292.keep t12 (by decide) q17
        refine mv_aload_n d_TrustDeskModel_compares_77 rfl rfl ?_
        obtain ⟨_, b313, -⟩ := I293.1 _ _ t299
        refine mv_callV (kc' := 0) (ks' := 0) (As := []) (st9 := [.ref o0]) d_TrustDeskModel_compares_78 lV_TrustDeskModel_288 b313 rfl (tc_TrustDeskModel_sum_q1_x (d := d) (x9 := x9) (o0 := o0) t299 R295 E302.1 (by have := R295.1 15 _ _ rfl; have := R295.1 16 _ _ rfl; have := R295.1 19 _ _ rfl; have := E302.f yS; omega) (by have := R295.1 15 _ _ rfl; have := R295.1 16 _ _ rfl; have := R295.1 19 _ _ rfl; have := E302.f yS; omega) f298 I293.start) rfl (Nat.le_of_ble_eq_true rfl) (Nat.le_of_ble_eq_true rfl) (Nat.le_of_ble_eq_true rfl) (hst := rfl) (fun b307r M308 n309 b307 => ?_)
        obtain ⟨T310, J311, rfl, R314, f315, f316, f317⟩ := b307
        have I312 := I293.call J311 (tm_sub (by decide)) (Or.inl rfl)
        have t318 := J311.up t299
        have E319 : rE M0 M308 o0 2 1 := E302.trans f315 (by decide) (yR.2 5 _ _ rfl 44).1 (by decide) (by decide)
        have := f315.w
        obtain ⟨s320, e321⟩ : ∃ s9 : p_S, p_sum pb pn pa (p_op pb pn pa 0) s304 = s9 := ⟨_, rfl⟩
        rw [e321] at f317
        have := f317.w
        refine mv_aload_n d_TrustDeskModel_compares_81 rfl rfl ?_
        refine mv_iload_n d_TrustDeskModel_compares_82 rfl rfl ?_
        obtain ⟨_, b328, -⟩ := I312.1 _ _ t318
        have : ((-4) : Int32).toInt = (-4) := by decide
        refine mv_callV (kc' := 0) (ks' := 0) (As := [.int (-4)]) (st9 := [.int (-4), .ref o0]) d_TrustDeskModel_compares_83 lV_TrustDeskModel_279 b328 rfl (tc_TrustDeskModel_emits_x (d := (d + 7)) (x9 := x9) (o0 := o0) (x1 := (-4)) t318 R314 (by have := R314.1 15 _ _ rfl; have := R314.1 16 _ _ rfl; have := R314.1 19 _ _ rfl; have := E319.f yS; omega) (by decide) I312.start) rfl (Nat.le_of_ble_eq_true rfl) (Nat.le_of_ble_eq_true rfl) (Nat.le_of_ble_eq_true rfl) (hst := rfl) (fun b322r M323 n324 b322 => ?_)
        obtain ⟨T325, J326, rfl, R329, f330⟩ := b322
        have I327 := I312.call J326 (tm_sub (by decide)) (Or.inl rfl)
        have t331 := J326.up t318
        have z332 := (rv_c I312 J326 (I312.up h_o0) (k := 16) rfl)
        have z333 := (rv_c I312 J326 (I312.up h_o0) (k := 17) rfl)
        have z334 := (rv_c I312 J326 (I312.up h_o0) (k := 19) rfl)
        have z335 := (rv_c I312 J326 (I312.up h_o0) (k := 22) rfl)
        have E336 : rE M0 M323 o0 1 0 := E319.emit f330 (rE_hv I312 J326 (I312.up h_o0) 15 19 (by decide)) (yR.2 5 _ _ rfl 44).1 (by decide) (Or.inr (Or.inr ⟨by decide, by decide, by decide, by decide⟩)) (by decide)
        have Z9337 : pO M323 o0 pb pn pa s320 := f317.same (rE_hv I312 J326 (I312.up h_o0) 14 20 (by decide)) (rv_c I312 J326 (I312.up h_o0) (k := 23) rfl) (ra_call I312 J326 (I312.up h_o0) (k := 13) rfl rfl rfl)
        exact mv_vret d_TrustDeskModel_compares_86 rfl ⟨_, I327, rfl, R329, E336, (by have := R329.1 15 _ _ rfl; have := R329.1 16 _ _ rfl; have := R329.1 19 _ _ rfl; have := E336.f yS; omega), (by first | (have := f11.s4 (by omega) (by omega); rw [show p_cmp pb pn pa 0 ps = s320 from (by unfold p_cmp; (try simp only [e15, e305, e321]); ((repeat' (first | (with_reducible rfl) | split)) <;> (exfalso; omega)))]; exact Z9337) | (exfalso; have := R329.1 15 _ _ rfl; have := R329.1 16 _ _ rfl; have := R329.1 19 _ _ rfl; have := E336.f yS; omega))⟩
theorem lV_TrustDeskModel_305 : mj_lV "TrustDeskModel" 305 kY_TrustDeskModel_compares 0 := ⟨⟨(mj_in1 (List.mem_of_getElem? (i := 1729) (by decide +kernel)) rfl), (mj_in1 (List.mem_of_getElem? (i := 10) (by decide +kernel)) rfl), (mj_in1 (List.mem_of_getElem? (i := 1732) (by decide +kernel)) rfl), by decide, rfl, by decide⟩, (mj_in1 (List.mem_of_getElem? (i := 1731) (by decide +kernel)) rfl), (mj_in (List.mem_append_left _ (List.mem_of_getElem? (i := 96) (by decide +kernel))) rfl)⟩
theorem d_TrustDeskModel_part_0_84 : decode kY_TrustDeskModel_part_0.2.1 84 = .ok (.iload_n 1, 1) := by decide +kernel
theorem d_TrustDeskModel_part_0_85 : decode kY_TrustDeskModel_part_0.2.1 85 = .ok (.ifCond .eq 9, 3) := by decide +kernel
theorem d_TrustDeskModel_part_0_94 : decode kY_TrustDeskModel_part_0.2.1 94 = .ok (.return_, 1) := by decide +kernel
theorem d_TrustDeskModel_part_0_88 : decode kY_TrustDeskModel_part_0.2.1 88 = .ok (.aload_n 0, 1) := by decide +kernel
theorem d_TrustDeskModel_part_0_89 : decode kY_TrustDeskModel_part_0.2.1 89 = .ok (.bipush (-9), 2) := by decide +kernel
theorem d_TrustDeskModel_part_0_91 : decode kY_TrustDeskModel_part_0.2.1 91 = .ok (.invokevirtual 279, 3) := by decide +kernel
theorem d_TrustDeskModel_part_0_53 : decode kY_TrustDeskModel_part_0.2.1 53 = .ok (.aload_n 0, 1) := by decide +kernel
theorem d_TrustDeskModel_part_0_54 : decode kY_TrustDeskModel_part_0.2.1 54 = .ok (.invokevirtual 285, 3) := by decide +kernel
theorem d_TrustDeskModel_part_0_57 : decode kY_TrustDeskModel_part_0.2.1 57 = .ok (.aload_n 0, 1) := by decide +kernel
theorem d_TrustDeskModel_part_0_58 : decode kY_TrustDeskModel_part_0.2.1 58 = .ok (.invokevirtual 302, 3) := by decide +kernel
def w_TrustDeskModel_part_0_q0_x : List Nat := []
set_option maxHeartbeats 100000000 in theorem tc_TrustDeskModel_part_0_q0_x {g : mj_G} {l : Launch} {d : Nat} {T0 : tm_H} {M0 : mj_M} {n0 x9 : Nat} {o0 : Nat} (h_o0 : T0 o0 = some (0, 13, 0)) (yR : rI M0 o0) (yT : rT M0 o0) (yS : rv M0 o0 19 = 0 → ra M0 o0 5 44 ≤ rv M0 o0 16) (yL : rv M0 o0 19 ≠ 0 ∨ (5 ≤ rv M0 o0 22 ∧ rv M0 o0 22 ≤ 4)) {pb : Nat → Int} {pn : Nat} {pa : Int} {ps : p_S} (yO : pO M0 o0 pb pn pa ps) (I0 : tm_I tm_FT (tm_in w_TrustDeskModel_part_0_q0_x) x9 T0 M0 n0 T0 M0 n0) : mj_Met g l kY_TrustDeskModel_part_0 (d + 1) [.ref o0] M0 n0 0 0 (tm_Q tm_FT (tm_in w_TrustDeskModel_part_0_q0_x) x9 T0 M0 n0 (fun r _ M => r = none ∧ rI M o0 ∧ (rE M0 M o0 1 0) ∧ (rv M o0 19 = 0 → rv M o0 22 = rv M0 o0 22) ∧ (pO M o0 pb pn pa ps))) := by
  refine mj_enter (by decide) (Nat.le_of_ble_eq_true rfl) ?_
  have yE0 := rE.rf yT
  have := yO.w
  refine mv_iconst (v := 0) d_TrustDeskModel_part_0_0 (by decide) ?_
  refine mv_istore_n (lv' := [(1, .int 0), (0, .ref o0)]) d_TrustDeskModel_part_0_1 rfl (by decide) rfl ?_
  have L2_1 : ∀ (k : Nat) (i1_1 : Int32) (T_1 : tm_H) (M_1 : mj_M) (n_1 : Nat), tm_I tm_FT (tm_in w_TrustDeskModel_part_0_q0_x) x9 T0 M0 n0 T_1 M_1 n_1 → T_1 o0 = some (0, 13, 0) → (rv M_1 o0 19 = 0 → rv M_1 o0 22 = rv M0 o0 22) → 0 ≤ i1_1.toInt → i1_1.toInt ≤ 1 → (rI M_1 o0) → (rE M0 M_1 o0 0 i1_1.toInt) → (∃ s1 : p_S, pO M_1 o0 pb pn pa s1 ∧ s1 = ps) → 5 * (401 - rv M_1 o0 16) - rv M_1 o0 19 < (k : Int) → mj_V g l kY_TrustDeskModel_part_0 (d + 1) 2 [(1, .int i1_1), (0, .ref o0)] [] M_1 n_1 0 0 (tm_Q tm_FT (tm_in w_TrustDeskModel_part_0_q0_x) x9 T0 M0 n0 (fun r _ M => r = none ∧ rI M o0 ∧ (rE M0 M o0 1 0) ∧ (rv M o0 19 = 0 → rv M o0 22 = rv M0 o0 22) ∧ (pO M o0 pb pn pa ps))) := by
    intro k1
    induction k1 with
    | zero =>
      intro i1_1 T_1 M_1 n_1 I_1 h_q0_1 iv0_1 iv1_1 iv2_1 kKR_1 kKE_1 kKT9_1 hk1
      have := kKR_1.1 15 _ _ rfl
      have := kKR_1.1 16 _ _ rfl
      have := kKR_1.1 19 _ _ rfl
      exfalso; omega
    | succ k1 ih1 =>
      intro i1_1 T_1 M_1 n_1 I_1 h_q0_1 iv0_1 iv1_1 iv2_1 kKR_1 kKE_1 kKT9_1 hk1
      have := kKE_1.f yS
      obtain ⟨s2, Z93, e4⟩ := kKT9_1
      have := Z93.w
      refine mv_aload_n d_TrustDeskModel_part_0_2 rfl rfl ?_
      obtain ⟨_, b5, -⟩ := I_1.1 _ _ h_q0_1
      refine mv_callV (kc1 := 0) (ks1 := 0) (kc' := 0) (ks' := 0) (As := []) (st9 := [.ref o0]) d_TrustDeskModel_part_0_3 lV_TrustDeskModel_230 b5 rfl (mj_enter (by decide) (Nat.le_of_ble_eq_true rfl) ?_) rfl (Nat.le_of_ble_eq_true rfl) (Nat.le_of_ble_eq_true rfl) (Nat.le_of_ble_eq_true rfl) (hst := rfl) (fun _ _ _ h => h)
      refine mv_aload_n d_TrustDeskModel_isWell_0 rfl rfl ?_
      obtain ⟨v7, q6⟩ := tm_atI I_1 h_q0_1 (k := 19) rfl
      refine tr_getK q6 d_TrustDeskModel_isWell_1 f_TrustDeskModel_224_13 ?_
      have := kKR_1.f (k := 19) q6 rfl
      have := tm_rv q6
      refine mv_if_neZ (tgt := 11) (a := v7.toInt) d_TrustDeskModel_isWell_4 (by decide) rfl (fun b8 => ?_) (fun b8 => ?_)
      · refine mv_iconst (v := 0) d_TrustDeskModel_isWell_11 (by decide) ?_
        refine mv_iret d_TrustDeskModel_isWell_12 rfl (by decide) ?_
        refine mv_if_eq_t (tgt := 36) d_TrustDeskModel_part_0_6 (by decide) (by decide) ?_
        refine mv_aload_n d_TrustDeskModel_part_0_36 rfl rfl ?_
        obtain ⟨_, b9, -⟩ := I_1.1 _ _ h_q0_1
        refine mv_callV (kc1 := 0) (ks1 := 0) (kc' := 0) (ks' := 0) (As := []) (st9 := [.ref o0]) d_TrustDeskModel_part_0_37 lV_TrustDeskModel_230 b9 rfl (mj_enter (by decide) (Nat.le_of_ble_eq_true rfl) ?_) rfl (Nat.le_of_ble_eq_true rfl) (Nat.le_of_ble_eq_true rfl) (Nat.le_of_ble_eq_true rfl) (hst := rfl) (fun _ _ _ h => h)
        refine mv_aload_n d_TrustDeskModel_isWell_0 rfl rfl ?_
        refine tr_getK (k := 19) q6 d_TrustDeskModel_isWell_1 f_TrustDeskModel_224_13 ?_
        refine mv_if_neZ (tgt := 11) (a := v7.toInt) d_TrustDeskModel_isWell_4 (by decide) rfl (fun b10 => ?_) (fun b10 => ?_)
        · refine mv_iconst (v := 0) d_TrustDeskModel_isWell_11 (by decide) ?_
          refine mv_iret d_TrustDeskModel_isWell_12 rfl (by decide) ?_
          refine mv_if_ne_f (tgt := 44) d_TrustDeskModel_part_0_40 (by decide) (by decide) ?_
          exact mv_vret d_TrustDeskModel_part_0_43 rfl ⟨_, I_1, rfl, kKR_1, kKE_1.vac (by have := kKR_1.1 15 _ _ rfl; have := kKR_1.1 16 _ _ rfl; have := kKR_1.1 19 _ _ rfl; have := kKE_1.f yS; omega) 1 0, (by have := kKR_1.1 15 _ _ rfl; have := kKR_1.1 16 _ _ rfl; have := kKR_1.1 19 _ _ rfl; have := kKE_1.f yS; omega), (by rw [← e4]; exact Z93)⟩
        · exfalso
          have := kKR_1.1 15 _ _ rfl; have := kKR_1.1 16 _ _ rfl; have := kKR_1.1 19 _ _ rfl; have := kKE_1.f yS; omega
      · exfalso
        have := kKR_1.1 15 _ _ rfl; have := kKR_1.1 16 _ _ rfl; have := kKR_1.1 19 _ _ rfl; have := kKE_1.f yS; omega
  have T11 : ∃ s1 : p_S, pO M0 o0 pb pn pa s1 ∧ s1 = ps := ⟨ps, yO, rfl⟩
  exact mv_less (Nat.zero_le _) (Nat.zero_le _) (L2_1 4294967296 0 T0 M0 n0 I0 h_o0 (by have := yR.1 15 _ _ rfl; have := yR.1 16 _ _ rfl; have := yR.1 19 _ _ rfl; have := yE0.f yS; first | omega | decide | exact fun h9 => absurd (by decide) h9) (by have := yR.1 15 _ _ rfl; have := yR.1 16 _ _ rfl; have := yR.1 19 _ _ rfl; have := yE0.f yS; first | omega | decide | exact fun h9 => absurd (by decide) h9) (by have := yR.1 15 _ _ rfl; have := yR.1 16 _ _ rfl; have := yR.1 19 _ _ rfl; have := yE0.f yS; first | omega | decide | exact fun h9 => absurd (by decide) h9) yR yE0 T11 (by have := yR.1 15 _ _ rfl; have := yR.1 16 _ _ rfl; have := yR.1 19 _ _ rfl; have := yE0.f yS; omega))
theorem lV_TrustDeskModel_308 : mj_lV "TrustDeskModel" 308 kY_TrustDeskModel_part_0 0 := ⟨⟨(mj_in1 (List.mem_of_getElem? (i := 1712) (by decide +kernel)) rfl), (mj_in1 (List.mem_of_getElem? (i := 10) (by decide +kernel)) rfl), (mj_in1 (List.mem_of_getElem? (i := 1715) (by decide +kernel)) rfl), by decide, rfl, by decide⟩, (mj_in1 (List.mem_of_getElem? (i := 1714) (by decide +kernel)) rfl), (mj_in (List.mem_append_left _ (List.mem_of_getElem? (i := 92) (by decide +kernel))) rfl)⟩
theorem d_TrustDeskModel_both_4 : decode kY_TrustDeskModel_both.2.1 4 = .ok (.aload_n 0, 1) := by decide +kernel
theorem d_TrustDeskModel_both_5 : decode kY_TrustDeskModel_both.2.1 5 = .ok (.invokevirtual 230, 3) := by decide +kernel
theorem d_TrustDeskModel_both_8 : decode kY_TrustDeskModel_both.2.1 8 = .ok (.ifCond .eq 30, 3) := by decide +kernel
theorem d_TrustDeskModel_both_38 : decode kY_TrustDeskModel_both.2.1 38 = .ok (.return_, 1) := by decide +kernel
def w_TrustDeskModel_both_q0_x : List Nat := []
set_option maxHeartbeats 100000000 in theorem tc_TrustDeskModel_both_q0_x {g : mj_G} {l : Launch} {d : Nat} {T0 : tm_H} {M0 : mj_M} {n0 x9 : Nat} {o0 : Nat} (h_o0 : T0 o0 = some (0, 13, 0)) (yR : rI M0 o0) (yT : rT M0 o0) (yS : rv M0 o0 19 = 0 → ra M0 o0 5 44 ≤ rv M0 o0 16) (yL : rv M0 o0 19 ≠ 0 ∨ (5 ≤ rv M0 o0 22 ∧ rv M0 o0 22 ≤ 4)) {pb : Nat → Int} {pn : Nat} {pa : Int} {ps : p_S} (yO : pO M0 o0 pb pn pa ps) (I0 : tm_I tm_FT (tm_in w_TrustDeskModel_both_q0_x) x9 T0 M0 n0 T0 M0 n0) : mj_Met g l kY_TrustDeskModel_both (d + 2) [.ref o0] M0 n0 0 0 (tm_Q tm_FT (tm_in w_TrustDeskModel_both_q0_x) x9 T0 M0 n0 (fun r _ M => r = none ∧ rI M o0 ∧ (rE M0 M o0 1 0) ∧ (rv M o0 19 = 0 → rv M o0 22 = rv M0 o0 22) ∧ (pO M o0 pb pn pa ps))) := by
  refine mj_enter (by decide) (Nat.le_of_ble_eq_true rfl) ?_
  have yE0 := rE.rf yT
  have := yO.w
  refine mv_aload_n d_TrustDeskModel_both_0 rfl rfl ?_
  obtain ⟨_, b7, -⟩ := I0.1 _ _ h_o0
  refine mv_callV (kc' := 0) (ks' := 0) (As := []) (st9 := [.ref o0]) d_TrustDeskModel_both_1 lV_TrustDeskModel_308 b7 rfl (tc_TrustDeskModel_part_0_q0_x (d := d) (x9 := x9) (o0 := o0) h_o0 yR yE0.1 (by have := yR.1 15 _ _ rfl; have := yR.1 16 _ _ rfl; have := yR.1 19 _ _ rfl; have := yE0.f yS; omega) (by have := yR.1 15 _ _ rfl; have := yR.1 16 _ _ rfl; have := yR.1 19 _ _ rfl; have := yE0.f yS; omega) yO I0.start) rfl (Nat.le_of_ble_eq_true rfl) (Nat.le_of_ble_eq_true rfl) (Nat.le_of_ble_eq_true rfl) (hst := rfl) (fun b1r M2 n3 b1 => ?_)
  obtain ⟨T4, J5, rfl, R8, f9, f10, f11⟩ := b1
  have I6 := I0.call J5 (tm_sub (by decide)) (Or.inl rfl)
  have t12 := J5.up h_o0
  have z13 := (rv_c I0 J5 (I0.up h_o0) (k := 16) rfl)
  have z14 := (rv_c I0 J5 (I0.up h_o0) (k := 17) rfl)
  have z15 := (rv_c I0 J5 (I0.up h_o0) (k := 19) rfl)
  have z16 := (rv_c I0 J5 (I0.up h_o0) (k := 22) rfl)
  have E17 : rE M0 M2 o0 1 0 := yE0.trans f9 (by decide) (yR.2 5 _ _ rfl 44).1 (by decide) (by decide)
  have := f9.w
  have := f11.w
  have L4_18 : ∀ (k : Nat) (T_18 : tm_H) (M_18 : mj_M) (n_18 : Nat), tm_I tm_FT (tm_in w_TrustDeskModel_both_q0_x) x9 T0 M0 n0 T_18 M_18 n_18 → T_18 o0 = some (0, 13, 0) → (rv M_18 o0 19 = 0 → rv M_18 o0 22 = rv M0 o0 22) → (rI M_18 o0) → (rE M0 M_18 o0 1 0) → (∃ s1 : p_S, pO M_18 o0 pb pn pa s1 ∧ s1 = ps) → 5 * (401 - rv M_18 o0 16) - rv M_18 o0 19 < (k : Int) → mj_V g l kY_TrustDeskModel_both (d + 2) 4 [(0, .ref o0)] [] M_18 n_18 0 0 (tm_Q tm_FT (tm_in w_TrustDeskModel_both_q0_x) x9 T0 M0 n0 (fun r _ M => r = none ∧ rI M o0 ∧ (rE M0 M o0 1 0) ∧ (rv M o0 19 = 0 → rv M o0 22 = rv M0 o0 22) ∧ (pO M o0 pb pn pa ps))) := by
    intro k18
    induction k18 with
    | zero =>
      intro T_18 M_18 n_18 I_18 h_q0_18 iv0_18 kKR_18 kKE_18 kKT9_18 hk18
      have := kKR_18.1 15 _ _ rfl
      have := kKR_18.1 16 _ _ rfl
      have := kKR_18.1 19 _ _ rfl
      exfalso; omega
    | succ k18 ih18 =>
      intro T_18 M_18 n_18 I_18 h_q0_18 iv0_18 kKR_18 kKE_18 kKT9_18 hk18
      have := kKE_18.f yS
      obtain ⟨s19, Z920, e21⟩ := kKT9_18
      have := Z920.w
      refine mv_aload_n d_TrustDeskModel_both_4 rfl rfl ?_
      obtain ⟨_, b22, -⟩ := I_18.1 _ _ h_q0_18
      refine mv_callV (kc1 := 0) (ks1 := 0) (kc' := 0) (ks' := 0) (As := []) (st9 := [.ref o0]) d_TrustDeskModel_both_5 lV_TrustDeskModel_230 b22 rfl (mj_enter (by decide) (Nat.le_of_ble_eq_true rfl) ?_) rfl (Nat.le_of_ble_eq_true rfl) (Nat.le_of_ble_eq_true rfl) (Nat.le_of_ble_eq_true rfl) (hst := rfl) (fun _ _ _ h => h)
      refine mv_aload_n d_TrustDeskModel_isWell_0 rfl rfl ?_
      obtain ⟨v24, q23⟩ := tm_atI I_18 h_q0_18 (k := 19) rfl
      refine tr_getK q23 d_TrustDeskModel_isWell_1 f_TrustDeskModel_224_13 ?_
      have := kKR_18.f (k := 19) q23 rfl
      have := tm_rv q23
      refine mv_if_neZ (tgt := 11) (a := v24.toInt) d_TrustDeskModel_isWell_4 (by decide) rfl (fun b25 => ?_) (fun b25 => ?_)
      · refine mv_iconst (v := 0) d_TrustDeskModel_isWell_11 (by decide) ?_
        refine mv_iret d_TrustDeskModel_isWell_12 rfl (by decide) ?_
        refine mv_if_eq_t (tgt := 38) d_TrustDeskModel_both_8 (by decide) (by decide) ?_
        exact mv_vret d_TrustDeskModel_both_38 rfl ⟨_, I_18, rfl, kKR_18, kKE_18, (by have := kKR_18.1 15 _ _ rfl; have := kKR_18.1 16 _ _ rfl; have := kKR_18.1 19 _ _ rfl; have := kKE_18.f yS; omega), (by rw [← e21]; exact Z920)⟩
      · exfalso
        have := kKR_18.1 15 _ _ rfl; have := kKR_18.1 16 _ _ rfl; have := kKR_18.1 19 _ _ rfl; have := kKE_18.f yS; omega
  have T26 : ∃ s1 : p_S, pO M2 o0 pb pn pa s1 ∧ s1 = ps := ⟨ps, f11, rfl⟩
  exact mv_less (Nat.zero_le _) (Nat.zero_le _) (L4_18 4294967296 T4 M2 n3 I6 t12 (by have := R8.1 15 _ _ rfl; have := R8.1 16 _ _ rfl; have := R8.1 19 _ _ rfl; have := E17.f yS; first | omega | decide | exact fun h9 => absurd (by decide) h9) R8 E17 T26 (by have := R8.1 15 _ _ rfl; have := R8.1 16 _ _ rfl; have := R8.1 19 _ _ rfl; have := E17.f yS; omega))
theorem lV_TrustDeskModel_312 : mj_lV "TrustDeskModel" 312 kY_TrustDeskModel_both 0 := ⟨⟨(mj_in1 (List.mem_of_getElem? (i := 1708) (by decide +kernel)) rfl), (mj_in1 (List.mem_of_getElem? (i := 10) (by decide +kernel)) rfl), (mj_in1 (List.mem_of_getElem? (i := 1711) (by decide +kernel)) rfl), by decide, rfl, by decide⟩, (mj_in1 (List.mem_of_getElem? (i := 1710) (by decide +kernel)) rfl), (mj_in (List.mem_append_left _ (List.mem_of_getElem? (i := 91) (by decide +kernel))) rfl)⟩
theorem d_TrustDeskModel_cond_4 : decode kY_TrustDeskModel_cond.2.1 4 = .ok (.aload_n 0, 1) := by decide +kernel
theorem d_TrustDeskModel_cond_5 : decode kY_TrustDeskModel_cond.2.1 5 = .ok (.invokevirtual 230, 3) := by decide +kernel
theorem d_TrustDeskModel_cond_8 : decode kY_TrustDeskModel_cond.2.1 8 = .ok (.ifCond .eq 30, 3) := by decide +kernel
theorem d_TrustDeskModel_cond_38 : decode kY_TrustDeskModel_cond.2.1 38 = .ok (.return_, 1) := by decide +kernel
def w_TrustDeskModel_cond_q0_x : List Nat := []
set_option maxHeartbeats 100000000 in theorem tc_TrustDeskModel_cond_q0_x {g : mj_G} {l : Launch} {d : Nat} {T0 : tm_H} {M0 : mj_M} {n0 x9 : Nat} {o0 : Nat} (h_o0 : T0 o0 = some (0, 13, 0)) (yR : rI M0 o0) (yT : rT M0 o0) (yS : rv M0 o0 19 = 0 → ra M0 o0 5 44 ≤ rv M0 o0 16) (yL : rv M0 o0 19 ≠ 0 ∨ (5 ≤ rv M0 o0 22 ∧ rv M0 o0 22 ≤ 4)) {pb : Nat → Int} {pn : Nat} {pa : Int} {ps : p_S} (yO : pO M0 o0 pb pn pa ps) (I0 : tm_I tm_FT (tm_in w_TrustDeskModel_cond_q0_x) x9 T0 M0 n0 T0 M0 n0) : mj_Met g l kY_TrustDeskModel_cond (d + 3) [.ref o0] M0 n0 0 0 (tm_Q tm_FT (tm_in w_TrustDeskModel_cond_q0_x) x9 T0 M0 n0 (fun r _ M => r = none ∧ rI M o0 ∧ (rE M0 M o0 1 0) ∧ (rv M o0 19 = 0 → rv M o0 22 = rv M0 o0 22) ∧ (pO M o0 pb pn pa ps))) := by
  refine mj_enter (by decide) (Nat.le_of_ble_eq_true rfl) ?_
  have yE0 := rE.rf yT
  have := yO.w
  refine mv_aload_n d_TrustDeskModel_cond_0 rfl rfl ?_
  obtain ⟨_, b7, -⟩ := I0.1 _ _ h_o0
  refine mv_callV (kc' := 0) (ks' := 0) (As := []) (st9 := [.ref o0]) d_TrustDeskModel_cond_1 lV_TrustDeskModel_312 b7 rfl (tc_TrustDeskModel_both_q0_x (d := d) (x9 := x9) (o0 := o0) h_o0 yR yE0.1 (by have := yR.1 15 _ _ rfl; have := yR.1 16 _ _ rfl; have := yR.1 19 _ _ rfl; have := yE0.f yS; omega) (by have := yR.1 15 _ _ rfl; have := yR.1 16 _ _ rfl; have := yR.1 19 _ _ rfl; have := yE0.f yS; omega) yO I0.start) rfl (Nat.le_of_ble_eq_true rfl) (Nat.le_of_ble_eq_true rfl) (Nat.le_of_ble_eq_true rfl) (hst := rfl) (fun b1r M2 n3 b1 => ?_)
  obtain ⟨T4, J5, rfl, R8, f9, f10, f11⟩ := b1
  have I6 := I0.call J5 (tm_sub (by decide)) (Or.inl rfl)
  have t12 := J5.up h_o0
  have z13 := (rv_c I0 J5 (I0.up h_o0) (k := 16) rfl)
  have z14 := (rv_c I0 J5 (I0.up h_o0) (k := 17) rfl)
  have z15 := (rv_c I0 J5 (I0.up h_o0) (k := 19) rfl)
  have z16 := (rv_c I0 J5 (I0.up h_o0) (k := 22) rfl)
  have E17 : rE M0 M2 o0 1 0 := yE0.trans f9 (by decide) (yR.2 5 _ _ rfl 44).1 (by decide) (by decide)
  have := f9.w
  have := f11.w
  have L4_18 : ∀ (k : Nat) (T_18 : tm_H) (M_18 : mj_M) (n_18 : Nat), tm_I tm_FT (tm_in w_TrustDeskModel_cond_q0_x) x9 T0 M0 n0 T_18 M_18 n_18 → T_18 o0 = some (0, 13, 0) → (rv M_18 o0 19 = 0 → rv M_18 o0 22 = rv M0 o0 22) → (rI M_18 o0) → (rE M0 M_18 o0 1 0) → (∃ s1 : p_S, pO M_18 o0 pb pn pa s1 ∧ s1 = ps) → 5 * (401 - rv M_18 o0 16) - rv M_18 o0 19 < (k : Int) → mj_V g l kY_TrustDeskModel_cond (d + 3) 4 [(0, .ref o0)] [] M_18 n_18 0 0 (tm_Q tm_FT (tm_in w_TrustDeskModel_cond_q0_x) x9 T0 M0 n0 (fun r _ M => r = none ∧ rI M o0 ∧ (rE M0 M o0 1 0) ∧ (rv M o0 19 = 0 → rv M o0 22 = rv M0 o0 22) ∧ (pO M o0 pb pn pa ps))) := by
    intro k18
    induction k18 with
    | zero =>
      intro T_18 M_18 n_18 I_18 h_q0_18 iv0_18 kKR_18 kKE_18 kKT9_18 hk18
      have := kKR_18.1 15 _ _ rfl
      have := kKR_18.1 16 _ _ rfl
      have := kKR_18.1 19 _ _ rfl
      exfalso; omega
    | succ k18 ih18 =>
      intro T_18 M_18 n_18 I_18 h_q0_18 iv0_18 kKR_18 kKE_18 kKT9_18 hk18
      have := kKE_18.f yS
      obtain ⟨s19, Z920, e21⟩ := kKT9_18
      have := Z920.w
      refine mv_aload_n d_TrustDeskModel_cond_4 rfl rfl ?_
      obtain ⟨_, b22, -⟩ := I_18.1 _ _ h_q0_18
      refine mv_callV (kc1 := 0) (ks1 := 0) (kc' := 0) (ks' := 0) (As := []) (st9 := [.ref o0]) d_TrustDeskModel_cond_5 lV_TrustDeskModel_230 b22 rfl (mj_enter (by decide) (Nat.le_of_ble_eq_true rfl) ?_) rfl (Nat.le_of_ble_eq_true rfl) (Nat.le_of_ble_eq_true rfl) (Nat.le_of_ble_eq_true rfl) (hst := rfl) (fun _ _ _ h => h)
      refine mv_aload_n d_TrustDeskModel_isWell_0 rfl rfl ?_
      obtain ⟨v24, q23⟩ := tm_atI I_18 h_q0_18 (k := 19) rfl
      refine tr_getK q23 d_TrustDeskModel_isWell_1 f_TrustDeskModel_224_13 ?_
      have := kKR_18.f (k := 19) q23 rfl
      have := tm_rv q23
      refine mv_if_neZ (tgt := 11) (a := v24.toInt) d_TrustDeskModel_isWell_4 (by decide) rfl (fun b25 => ?_) (fun b25 => ?_)
      · refine mv_iconst (v := 0) d_TrustDeskModel_isWell_11 (by decide) ?_
        refine mv_iret d_TrustDeskModel_isWell_12 rfl (by decide) ?_
        refine mv_if_eq_t (tgt := 38) d_TrustDeskModel_cond_8 (by decide) (by decide) ?_
        exact mv_vret d_TrustDeskModel_cond_38 rfl ⟨_, I_18, rfl, kKR_18, kKE_18, (by have := kKR_18.1 15 _ _ rfl; have := kKR_18.1 16 _ _ rfl; have := kKR_18.1 19 _ _ rfl; have := kKE_18.f yS; omega), (by rw [← e21]; exact Z920)⟩
      · exfalso
        have := kKR_18.1 15 _ _ rfl; have := kKR_18.1 16 _ _ rfl; have := kKR_18.1 19 _ _ rfl; have := kKE_18.f yS; omega
  have T26 : ∃ s1 : p_S, pO M2 o0 pb pn pa s1 ∧ s1 = ps := ⟨ps, f11, rfl⟩
  exact mv_less (Nat.zero_le _) (Nat.zero_le _) (L4_18 4294967296 T4 M2 n3 I6 t12 (by have := R8.1 15 _ _ rfl; have := R8.1 16 _ _ rfl; have := R8.1 19 _ _ rfl; have := E17.f yS; first | omega | decide | exact fun h9 => absurd (by decide) h9) R8 E17 T26 (by have := R8.1 15 _ _ rfl; have := R8.1 16 _ _ rfl; have := R8.1 19 _ _ rfl; have := E17.f yS; omega))
theorem lV_TrustDeskModel_302 : mj_lV "TrustDeskModel" 302 kY_TrustDeskModel_cond 0 := ⟨⟨(mj_in1 (List.mem_of_getElem? (i := 1704) (by decide +kernel)) rfl), (mj_in1 (List.mem_of_getElem? (i := 10) (by decide +kernel)) rfl), (mj_in1 (List.mem_of_getElem? (i := 1707) (by decide +kernel)) rfl), by decide, rfl, by decide⟩, (mj_in1 (List.mem_of_getElem? (i := 1706) (by decide +kernel)) rfl), (mj_in (List.mem_append_left _ (List.mem_of_getElem? (i := 90) (by decide +kernel))) rfl)⟩
theorem d_TrustDeskModel_part_0_61 : decode kY_TrustDeskModel_part_0.2.1 61 = .ok (.aload_n 0, 1) := by decide +kernel
theorem d_TrustDeskModel_part_0_62 : decode kY_TrustDeskModel_part_0.2.1 62 = .ok (.bipush 93, 2) := by decide +kernel
theorem d_TrustDeskModel_part_0_64 : decode kY_TrustDeskModel_part_0.2.1 64 = .ok (.invokevirtual 291, 3) := by decide +kernel
theorem d_TrustDeskModel_part_0_67 : decode kY_TrustDeskModel_part_0.2.1 67 = .ok (.aload_n 0, 1) := by decide +kernel
theorem d_TrustDeskModel_part_0_68 : decode kY_TrustDeskModel_part_0.2.1 68 = .ok (.dup, 1) := by decide +kernel
theorem d_TrustDeskModel_part_0_69 : decode kY_TrustDeskModel_part_0.2.1 69 = .ok (.getfield 276, 3) := by decide +kernel
theorem d_TrustDeskModel_part_0_72 : decode kY_TrustDeskModel_part_0.2.1 72 = .ok (.iconst 1, 1) := by decide +kernel
theorem d_TrustDeskModel_part_0_73 : decode kY_TrustDeskModel_part_0.2.1 73 = .ok (.isub, 1) := by decide +kernel
theorem d_TrustDeskModel_part_0_74 : decode kY_TrustDeskModel_part_0.2.1 74 = .ok (.putfield 276, 3) := by decide +kernel
theorem d_TrustDeskModel_part_0_77 : decode kY_TrustDeskModel_part_0.2.1 77 = .ok (.goto 7, 3) := by decide +kernel
theorem d_TrustDeskModel_part_0_19 : decode kY_TrustDeskModel_part_0.2.1 19 = .ok (.aload_n 0, 1) := by decide +kernel
theorem d_TrustDeskModel_part_0_20 : decode kY_TrustDeskModel_part_0.2.1 20 = .ok (.invokevirtual 237, 3) := by decide +kernel
theorem d_TrustDeskModel_part_0_23 : decode kY_TrustDeskModel_part_0.2.1 23 = .ok (.iload_n 1, 1) := by decide +kernel
theorem d_TrustDeskModel_part_0_24 : decode kY_TrustDeskModel_part_0.2.1 24 = .ok (.ifCond .ne 7, 3) := by decide +kernel
theorem d_TrustDeskModel_part_0_31 : decode kY_TrustDeskModel_part_0.2.1 31 = .ok (.iconst 0, 1) := by decide +kernel
theorem d_TrustDeskModel_part_0_32 : decode kY_TrustDeskModel_part_0.2.1 32 = .ok (.istore_n 1, 1) := by decide +kernel
theorem d_TrustDeskModel_part_0_33 : decode kY_TrustDeskModel_part_0.2.1 33 = .ok (.goto (-31), 3) := by decide +kernel
theorem d_TrustDeskModel_part_0_27 : decode kY_TrustDeskModel_part_0.2.1 27 = .ok (.iconst 1, 1) := by decide +kernel
theorem d_TrustDeskModel_part_0_28 : decode kY_TrustDeskModel_part_0.2.1 28 = .ok (.goto 4, 3) := by decide +kernel
def w_TrustDeskModel_part_0_q1_x : List Nat := [1315, 1316, 1317, 1318, 1319, 1320, 1322, 20004, 20005]
set_option maxHeartbeats 100000000 in theorem tc_TrustDeskModel_part_0_q1_x {g : mj_G} {l : Launch} {d : Nat} {T0 : tm_H} {M0 : mj_M} {n0 x9 : Nat} {o0 : Nat} (h_o0 : T0 o0 = some (0, 13, 0)) (yR : rI M0 o0) (yT : rT M0 o0) (yS : rv M0 o0 19 = 0 → ra M0 o0 5 44 ≤ rv M0 o0 16) (yL : rv M0 o0 19 ≠ 0 ∨ (4 ≤ rv M0 o0 22 ∧ rv M0 o0 22 ≤ 4)) {pb : Nat → Int} {pn : Nat} {pa : Int} {ps : p_S} (yO : pO M0 o0 pb pn pa ps) (I0 : tm_I tm_FT (tm_in w_TrustDeskModel_part_0_q1_x) x9 T0 M0 n0 T0 M0 n0) : mj_Met g l kY_TrustDeskModel_part_0 (d + 10) [.ref o0] M0 n0 0 0 (tm_Q tm_FT (tm_in w_TrustDeskModel_part_0_q1_x) x9 T0 M0 n0 (fun r _ M => r = none ∧ rI M o0 ∧ (rE M0 M o0 1 0) ∧ (rv M o0 19 = 0 → rv M o0 22 = rv M0 o0 22) ∧ (pO M o0 pb pn pa (p_ter pb pn pa 0 (p_oc pb pn pa 0) ps)))) := by
  refine mj_enter (by decide) (Nat.le_of_ble_eq_true rfl) ?_
  have yE0 := rE.rf yT
  have := yO.w
  refine mv_iconst (v := 0) d_TrustDeskModel_part_0_0 (by decide) ?_
  refine mv_istore_n (lv' := [(1, .int 0), (0, .ref o0)]) d_TrustDeskModel_part_0_1 rfl (by decide) rfl ?_
  have L2_1 : ∀ (k : Nat) (i1_1 : Int32) (T_1 : tm_H) (M_1 : mj_M) (n_1 : Nat), tm_I tm_FT (tm_in w_TrustDeskModel_part_0_q1_x) x9 T0 M0 n0 T_1 M_1 n_1 → T_1 o0 = some (0, 13, 0) → (rv M_1 o0 19 = 0 → rv M_1 o0 22 = rv M0 o0 22) → 0 ≤ i1_1.toInt → i1_1.toInt ≤ 1 → (rI M_1 o0) → (rE M0 M_1 o0 0 i1_1.toInt) → (∃ s1 : p_S, pO M_1 o0 pb pn pa s1 ∧ p_lp pn (p_no1 pb pn) s1 = p_lp pn (p_no1 pb pn) ps) → 5 * (401 - rv M_1 o0 16) - rv M_1 o0 19 < (k : Int) → mj_V g l kY_TrustDeskModel_part_0 (d + 10) 2 [(1, .int i1_1), (0, .ref o0)] [] M_1 n_1 0 0 (tm_Q tm_FT (tm_in w_TrustDeskModel_part_0_q1_x) x9 T0 M0 n0 (fun r _ M => r = none ∧ rI M o0 ∧ (rE M0 M o0 1 0) ∧ (rv M o0 19 = 0 → rv M o0 22 = rv M0 o0 22) ∧ (pO M o0 pb pn pa (p_ter pb pn pa 0 (p_oc pb pn pa 0) ps)))) := by
    intro k1
    induction k1 with
    | zero =>
      intro i1_1 T_1 M_1 n_1 I_1 h_q0_1 iv0_1 iv1_1 iv2_1 kKR_1 kKE_1 kKT9_1 hk1
      have := kKR_1.1 15 _ _ rfl
      have := kKR_1.1 16 _ _ rfl
      have := kKR_1.1 19 _ _ rfl
      exfalso; omega
    | succ k1 ih1 =>
      intro i1_1 T_1 M_1 n_1 I_1 h_q0_1 iv0_1 iv1_1 iv2_1 kKR_1 kKE_1 kKT9_1 hk1
      have := kKE_1.f yS
      obtain ⟨s2, Z93, e4⟩ := kKT9_1
      have := Z93.w
      refine mv_aload_n d_TrustDeskModel_part_0_2 rfl rfl ?_
      obtain ⟨_, b5, -⟩ := I_1.1 _ _ h_q0_1
      refine mv_callV (kc1 := 0) (ks1 := 0) (kc' := 0) (ks' := 0) (As := []) (st9 := [.ref o0]) d_TrustDeskModel_part_0_3 lV_TrustDeskModel_230 b5 rfl (mj_enter (by decide) (Nat.le_of_ble_eq_true rfl) ?_) rfl (Nat.le_of_ble_eq_true rfl) (Nat.le_of_ble_eq_true rfl) (Nat.le_of_ble_eq_true rfl) (hst := rfl) (fun _ _ _ h => h)
      refine mv_aload_n d_TrustDeskModel_isWell_0 rfl rfl ?_
      obtain ⟨v7, q6⟩ := tm_atI I_1 h_q0_1 (k := 19) rfl
      refine tr_getK q6 d_TrustDeskModel_isWell_1 f_TrustDeskModel_224_13 ?_
      have := kKR_1.f (k := 19) q6 rfl
      have := tm_rv q6
      have := mz_hi v7
      refine mv_if_neZ (tgt := 11) (a := v7.toInt) d_TrustDeskModel_isWell_4 (by decide) rfl (fun b8 => ?_) (fun b8 => ?_)
      · refine mv_iconst (v := 0) d_TrustDeskModel_isWell_11 (by decide) ?_
        refine mv_iret d_TrustDeskModel_isWell_12 rfl (by decide) ?_
        refine mv_if_eq_t (tgt := 36) d_TrustDeskModel_part_0_6 (by decide) (by decide) ?_
        refine mv_aload_n d_TrustDeskModel_part_0_36 rfl rfl ?_
        obtain ⟨_, b9, -⟩ := I_1.1 _ _ h_q0_1
        refine mv_callV (kc1 := 0) (ks1 := 0) (kc' := 0) (ks' := 0) (As := []) (st9 := [.ref o0]) d_TrustDeskModel_part_0_37 lV_TrustDeskModel_230 b9 rfl (mj_enter (by decide) (Nat.le_of_ble_eq_true rfl) ?_) rfl (Nat.le_of_ble_eq_true rfl) (Nat.le_of_ble_eq_true rfl) (Nat.le_of_ble_eq_true rfl) (hst := rfl) (fun _ _ _ h => h)
        refine mv_aload_n d_TrustDeskModel_isWell_0 rfl rfl ?_
        refine tr_getK (k := 19) q6 d_TrustDeskModel_isWell_1 f_TrustDeskModel_224_13 ?_
        have := mz_hi v7
        refine mv_if_neZ (tgt := 11) (a := v7.toInt) d_TrustDeskModel_isWell_4 (by decide) rfl (fun b10 => ?_) (fun b10 => absurd b10 (by omega))
        refine mv_iconst (v := 0) d_TrustDeskModel_isWell_11 (by decide) ?_
        refine mv_iret d_TrustDeskModel_isWell_12 rfl (by decide) ?_
        refine mv_if_ne_f (tgt := 44) d_TrustDeskModel_part_0_40 (by decide) (by decide) ?_
        exact mv_vret d_TrustDeskModel_part_0_43 rfl ⟨_, I_1, rfl, kKR_1, kKE_1.vac (by have := kKR_1.1 15 _ _ rfl; have := kKR_1.1 16 _ _ rfl; have := kKR_1.1 19 _ _ rfl; have := kKE_1.f yS; omega) 1 0, (by have := kKR_1.1 15 _ _ rfl; have := kKR_1.1 16 _ _ rfl; have := kKR_1.1 19 _ _ rfl; have := kKE_1.f yS; omega), (by first | (have hX := e4.symm.trans (p_lp_stop (show (p_no1 pb pn) s2 = s2 from if_neg (fun h9 => by omega))); rw [show p_ter pb pn pa 0 (p_oc pb pn pa 0) ps = s2 from (by have hop : (p_oc pb pn pa 0) s2 = p_fl pb pn 4 s2 := rfl; unfold p_ter; rw [hX]; unfold p_te1; (try simp only [hop]); (try simp only [hX]); ((repeat' (first | (with_reducible rfl) | split)) <;> (exfalso; omega)))]; exact Z93) | (exfalso; have := kKR_1.1 15 _ _ rfl; have := kKR_1.1 16 _ _ rfl; have := kKR_1.1 19 _ _ rfl; have := kKE_1.f yS; omega))⟩
      · refine mv_iconst (v := 1) d_TrustDeskModel_isWell_7 (by decide) ?_
        refine mv_goto (tgt := 12) d_TrustDeskModel_isWell_8 (by decide) ?_
        refine mv_iret d_TrustDeskModel_isWell_12 rfl (by decide) ?_
        refine mv_if_eq_f (tgt := 36) d_TrustDeskModel_part_0_6 (by decide) (by decide) ?_
        refine mv_aload_n d_TrustDeskModel_part_0_9 rfl rfl ?_
        refine mv_ldcSw (id := 26) (tx := "not") d_TrustDeskModel_part_0_10 (List.mem_of_getElem? (i := 16) rfl) ?_
        obtain ⟨_, b17, -⟩ := I_1.1 _ _ h_q0_1
        refine mv_callV (kc' := 0) (ks' := 0) (As := [.ref 26]) (st9 := [.ref 26, .ref o0]) d_TrustDeskModel_part_0_13 lV_TrustDeskModel_244 b17 rfl (tc_TrustDeskModel_isWord_s1_26_x (d := (d + 5)) (x9 := x9) (o0 := o0) h_q0_1 kKR_1 I_1.start) rfl (Nat.le_of_ble_eq_true rfl) (Nat.le_of_ble_eq_true rfl) (Nat.le_of_ble_eq_true rfl) (hst := rfl) (fun b11r M12 n13 b11 => ?_)
        obtain ⟨T14, J15, v18, rfl, b19, b20, R21, f22, f23, f24⟩ := b11
        have I16 := I_1.call J15 (tm_sub (by decide)) (Or.inl rfl)
        have t25 := J15.up h_q0_1
        replace f23 := Im.i f23
        replace f24 := Im.i f24
        have z26 := (rv_c I_1 J15 (I_1.up h_o0) (k := 16) rfl)
        have z27 := (rv_c I_1 J15 (I_1.up h_o0) (k := 17) rfl)
        have z28 := (rv_c I_1 J15 (I_1.up h_o0) (k := 19) rfl)
        have z29 := (rv_c I_1 J15 (I_1.up h_o0) (k := 22) rfl)
        have E30 : rE M0 M12 o0 0 i1_1.toInt := kKE_1.same (rE_hv I_1 J15 (I_1.up h_o0) 15 19 (by decide)) (rE_ha I_1 J15 (I_1.up h_o0) (by decide))
        have Z931 : pO M12 o0 pb pn pa s2 := Z93.same (rE_hv I_1 J15 (I_1.up h_o0) 14 20 (by decide)) (rv_c I_1 J15 (I_1.up h_o0) (k := 23) rfl) (ra_call I_1 J15 (I_1.up h_o0) (k := 13) rfl rfl rfl)
        have d32 := Im.i (pO.w_30 Z93 (by have := kKR_1.1 15 _ _ rfl; have := kKR_1.1 16 _ _ rfl; have := kKR_1.1 19 _ _ rfl; have := kKE_1.f yS; omega) (Im.o f23) (Im.o f24) (by have := kKR_1.1 15 _ _ rfl; have := kKR_1.1 16 _ _ rfl; have := kKR_1.1 19 _ _ rfl; have := kKE_1.f yS; omega))
        have q33 := J15.keep h_q0_1 (by decide) q6
        have := mz_hi v18
        refine mv_if_eqZ (tgt := 36) (a := v18.toInt) d_TrustDeskModel_part_0_16 (by decide) rfl (fun b34 => ?_) (fun b34 => ?_)
        · refine mv_aload_n d_TrustDeskModel_part_0_36 rfl rfl ?_
          obtain ⟨_, b35, -⟩ := I16.1 _ _ t25
          refine mv_callV (kc1 := 0) (ks1 := 0) (kc' := 0) (ks' := 0) (As := []) (st9 := [.ref o0]) d_TrustDeskModel_part_0_37 lV_TrustDeskModel_230 b35 rfl (mj_enter (by decide) (Nat.le_of_ble_eq_true rfl) ?_) rfl (Nat.le_of_ble_eq_true rfl) (Nat.le_of_ble_eq_true rfl) (Nat.le_of_ble_eq_true rfl) (hst := rfl) (fun _ _ _ h => h)
          refine mv_aload_n d_TrustDeskModel_isWell_0 rfl rfl ?_
          refine tr_getK (k := 19) q33 d_TrustDeskModel_isWell_1 f_TrustDeskModel_224_13 ?_
          have := mz_hi v7
          refine mv_if_neZ (tgt := 11) (a := v7.toInt) d_TrustDeskModel_isWell_4 (by decide) rfl (fun b36 => absurd b36 (by omega)) (fun b36 => ?_)
          refine mv_iconst (v := 1) d_TrustDeskModel_isWell_7 (by decide) ?_
          refine mv_goto (tgt := 12) d_TrustDeskModel_isWell_8 (by decide) ?_
          refine mv_iret d_TrustDeskModel_isWell_12 rfl (by decide) ?_
          refine mv_if_ne_t (tgt := 44) d_TrustDeskModel_part_0_40 (by decide) (by decide) ?_
          refine mv_aload_n d_TrustDeskModel_part_0_44 rfl rfl ?_
          refine mv_bipush (v := 91) d_TrustDeskModel_part_0_45 (by decide) ?_
          obtain ⟨_, b37, -⟩ := I16.1 _ _ t25
          refine mv_callV (kc1 := 0) (ks1 := 0) (kc' := 0) (ks' := 0) (As := [.int 91]) (st9 := [.int 91, .ref o0]) d_TrustDeskModel_part_0_47 lV_TrustDeskModel_234 b37 rfl (mj_enter (by decide) (Nat.le_of_ble_eq_true rfl) ?_) rfl (Nat.le_of_ble_eq_true rfl) (Nat.le_of_ble_eq_true rfl) (Nat.le_of_ble_eq_true rfl) (hst := rfl) (fun _ _ _ h => h)
          refine mv_aload_n d_TrustDeskModel_isSign_0 rfl rfl ?_
          obtain ⟨v39, q38⟩ := tm_atI I16 t25 (k := 17) rfl
          refine tr_getK q38 d_TrustDeskModel_isSign_1 f_TrustDeskModel_198_13 ?_
          have := (tm_rv q38).symm.trans z27
          have := tm_rv q38
          refine mv_iconst (v := 4) d_TrustDeskModel_isSign_4 (by decide) ?_
          have := mz_hi v39
          refine mv_icmp_neZ (tgt := 20) (a := v39.toInt) (b := 4) d_TrustDeskModel_isSign_5 (by decide) rfl (by decide) (fun b40 => ?_) (fun b40 => ?_)
          · refine mv_iconst (v := 0) d_TrustDeskModel_isSign_20 (by decide) ?_
            refine mv_iret d_TrustDeskModel_isSign_21 rfl (by decide) ?_
            refine mv_if_eq_t (tgt := 80) d_TrustDeskModel_part_0_50 (by decide) (by decide) ?_
            refine mv_aload_n d_TrustDeskModel_part_0_80 rfl rfl ?_
            obtain ⟨_, b47, -⟩ := I16.1 _ _ t25
            refine mv_callV (kc' := 0) (ks' := 0) (As := []) (st9 := [.ref o0]) d_TrustDeskModel_part_0_81 lV_TrustDeskModel_305 b47 rfl (tc_TrustDeskModel_compares_q1_x (d := d) (x9 := x9) (o0 := o0) t25 R21 E30.1 (by have := R21.1 15 _ _ rfl; have := R21.1 16 _ _ rfl; have := R21.1 19 _ _ rfl; have := E30.f yS; omega) (by have := R21.1 15 _ _ rfl; have := R21.1 16 _ _ rfl; have := R21.1 19 _ _ rfl; have := E30.f yS; omega) Z931 I16.start) rfl (Nat.le_of_ble_eq_true rfl) (Nat.le_of_ble_eq_true rfl) (Nat.le_of_ble_eq_true rfl) (hst := rfl) (fun b41r M42 n43 b41 => ?_)
            obtain ⟨T44, J45, rfl, R48, f49, f50, f51⟩ := b41
            have I46 := I16.call J45 (tm_sub (by decide)) (Or.inl rfl)
            have t52 := J45.up t25
            have E53 : rE M0 M42 o0 1 (i1_1.toInt + 0) := E30.trans f49 (by decide) (yR.2 5 _ _ rfl 44).1 (by decide) (by omega)
            have := f49.w
            obtain ⟨s54, e55⟩ : ∃ s9 : p_S, p_cmp pb pn pa 0 s2 = s9 := ⟨_, rfl⟩
            rw [e55] at f51
            have := f51.w
            refine mv_iload_n d_TrustDeskModel_part_0_84 rfl rfl ?_
            have := mz_hi i1_1
            refine mv_if_eqZ (tgt := 94) (a := i1_1.toInt) d_TrustDeskModel_part_0_85 (by decide) rfl (fun b56 => ?_) (fun b56 => ?_)
            · exact mv_vret d_TrustDeskModel_part_0_94 rfl ⟨_, I46, rfl, R48, E53.less (by omega), (by have := R48.1 15 _ _ rfl; have := R48.1 16 _ _ rfl; have := R48.1 19 _ _ rfl; have := E53.f yS; omega), (by first | (have := Z931.n4 (by omega) (by omega); have := pW0 (Im.o d32) (by omega); have := Z931.wk; have hX := e4.symm.trans (p_lp_stop (show (p_no1 pb pn) s2 = s2 from if_neg (fun h9 => by omega))); rw [show p_ter pb pn pa 0 (p_oc pb pn pa 0) ps = s54 from (by have hop : (p_oc pb pn pa 0) s2 = p_fl pb pn 4 s2 := rfl; unfold p_ter; rw [hX]; unfold p_te1; (try simp only [hop]); (try simp only [hX, e55]); ((repeat' (first | (with_reducible rfl) | split)) <;> (exfalso; omega)))]; exact f51) | (exfalso; have := R48.1 15 _ _ rfl; have := R48.1 16 _ _ rfl; have := R48.1 19 _ _ rfl; have := E53.f yS; omega))⟩
            · refine mv_aload_n d_TrustDeskModel_part_0_88 rfl rfl ?_
              refine mv_bipush (v := (-9)) d_TrustDeskModel_part_0_89 (by decide) ?_
              obtain ⟨_, b63, -⟩ := I46.1 _ _ t52
              have : ((-9) : Int32).toInt = (-9) := by decide
              refine mv_callV (kc' := 0) (ks' := 0) (As := [.int (-9)]) (st9 := [.int (-9), .ref o0]) d_TrustDeskModel_part_0_91 lV_TrustDeskModel_279 b63 rfl (tc_TrustDeskModel_emits_x (d := (d + 8)) (x9 := x9) (o0 := o0) (x1 := (-9)) t52 R48 (by have := R48.1 15 _ _ rfl; have := R48.1 16 _ _ rfl; have := R48.1 19 _ _ rfl; have := E53.f yS; omega) (by decide) I46.start) rfl (Nat.le_of_ble_eq_true rfl) (Nat.le_of_ble_eq_true rfl) (Nat.le_of_ble_eq_true rfl) (hst := rfl) (fun b57r M58 n59 b57 => ?_)
              obtain ⟨T60, J61, rfl, R64, f65⟩ := b57
              have I62 := I46.call J61 (tm_sub (by decide)) (Or.inl rfl)
              have t66 := J61.up t52
              have z67 := (rv_c I46 J61 (I46.up h_o0) (k := 16) rfl)
              have z68 := (rv_c I46 J61 (I46.up h_o0) (k := 17) rfl)
              have z69 := (rv_c I46 J61 (I46.up h_o0) (k := 19) rfl)
              have z70 := (rv_c I46 J61 (I46.up h_o0) (k := 22) rfl)
              have E71 : rE M0 M58 o0 1 (i1_1.toInt + (-1)) := E53.emit f65 (rE_hv I46 J61 (I46.up h_o0) 15 19 (by decide)) (yR.2 5 _ _ rfl 44).1 (by decide) (Or.inr (Or.inl ⟨by decide, by decide, by decide⟩)) (by omega)
              have Z972 : pO M58 o0 pb pn pa s54 := f51.same (rE_hv I46 J61 (I46.up h_o0) 14 20 (by decide)) (rv_c I46 J61 (I46.up h_o0) (k := 23) rfl) (ra_call I46 J61 (I46.up h_o0) (k := 13) rfl rfl rfl)
              exact mv_vret d_TrustDeskModel_part_0_94 rfl ⟨_, I62, rfl, R64, E71.less (by omega), (by have := R64.1 15 _ _ rfl; have := R64.1 16 _ _ rfl; have := R64.1 19 _ _ rfl; have := E71.f yS; omega), (by first | (have := Z931.n4 (by omega) (by omega); have := pW0 (Im.o d32) (by omega); have := Z931.wk; have hX := e4.symm.trans (p_lp_stop (show (p_no1 pb pn) s2 = s2 from if_neg (fun h9 => by omega))); rw [show p_ter pb pn pa 0 (p_oc pb pn pa 0) ps = s54 from (by have hop : (p_oc pb pn pa 0) s2 = p_fl pb pn 4 s2 := rfl; unfold p_ter; rw [hX]; unfold p_te1; (try simp only [hop]); (try simp only [hX, e55]); ((repeat' (first | (with_reducible rfl) | split)) <;> (exfalso; omega)))]; exact Z972) | (exfalso; have := R64.1 15 _ _ rfl; have := R64.1 16 _ _ rfl; have := R64.1 19 _ _ rfl; have := E71.f yS; omega))⟩
          · refine mv_aload_n d_TrustDeskModel_isSign_8 rfl rfl ?_
            obtain ⟨v74, q73⟩ := tm_atI I16 t25 (k := 18) rfl
            refine tr_getK q73 d_TrustDeskModel_isSign_9 f_TrustDeskModel_201_13 ?_
            have := R21.f (k := 18) q73 rfl
            have := tm_rv q73
            refine mv_iload_n d_TrustDeskModel_isSign_12 rfl rfl ?_
            have := mz_hi v74
            refine mv_icmp_neZ (tgt := 20) (a := v74.toInt) (b := 91) d_TrustDeskModel_isSign_13 (by decide) rfl (by decide) (fun b75 => ?_) (fun b75 => ?_)
            · refine mv_iconst (v := 0) d_TrustDeskModel_isSign_20 (by decide) ?_
              refine mv_iret d_TrustDeskModel_isSign_21 rfl (by decide) ?_
              refine mv_if_eq_t (tgt := 80) d_TrustDeskModel_part_0_50 (by decide) (by decide) ?_
              refine mv_aload_n d_TrustDeskModel_part_0_80 rfl rfl ?_
              obtain ⟨_, b82, -⟩ := I16.1 _ _ t25
              refine mv_callV (kc' := 0) (ks' := 0) (As := []) (st9 := [.ref o0]) d_TrustDeskModel_part_0_81 lV_TrustDeskModel_305 b82 rfl (tc_TrustDeskModel_compares_q1_x (d := d) (x9 := x9) (o0 := o0) t25 R21 E30.1 (by have := R21.1 15 _ _ rfl; have := R21.1 16 _ _ rfl; have := R21.1 19 _ _ rfl; have := E30.f yS; omega) (by have := R21.1 15 _ _ rfl; have := R21.1 16 _ _ rfl; have := R21.1 19 _ _ rfl; have := E30.f yS; omega) Z931 I16.start) rfl (Nat.le_of_ble_eq_true rfl) (Nat.le_of_ble_eq_true rfl) (Nat.le_of_ble_eq_true rfl) (hst := rfl) (fun b76r M77 n78 b76 => ?_)
              obtain ⟨T79, J80, rfl, R83, f84, f85, f86⟩ := b76
              have I81 := I16.call J80 (tm_sub (by decide)) (Or.inl rfl)
              have t87 := J80.up t25
              have E88 : rE M0 M77 o0 1 (i1_1.toInt + 0) := E30.trans f84 (by decide) (yR.2 5 _ _ rfl 44).1 (by decide) (by omega)
              have := f84.w
              obtain ⟨s89, e90⟩ : ∃ s9 : p_S, p_cmp pb pn pa 0 s2 = s9 := ⟨_, rfl⟩
              rw [e90] at f86
              have := f86.w
              refine mv_iload_n d_TrustDeskModel_part_0_84 rfl rfl ?_
              have := mz_hi i1_1
              refine mv_if_eqZ (tgt := 94) (a := i1_1.toInt) d_TrustDeskModel_part_0_85 (by decide) rfl (fun b91 => ?_) (fun b91 => ?_)
              · exact mv_vret d_TrustDeskModel_part_0_94 rfl ⟨_, I81, rfl, R83, E88.less (by omega), (by have := R83.1 15 _ _ rfl; have := R83.1 16 _ _ rfl; have := R83.1 19 _ _ rfl; have := E88.f yS; omega), (by first | (have := Z931.s4 (by omega) (by omega); have := pW0 (Im.o d32) (by omega); have := Z931.wk; have hX := e4.symm.trans (p_lp_stop (show (p_no1 pb pn) s2 = s2 from if_neg (fun h9 => by omega))); rw [show p_ter pb pn pa 0 (p_oc pb pn pa 0) ps = s89 from (by have hop : (p_oc pb pn pa 0) s2 = p_fl pb pn 4 s2 := rfl; unfold p_ter; rw [hX]; unfold p_te1; (try simp only [hop]); (try simp only [hX, e90]); ((repeat' (first | (with_reducible rfl) | split)) <;> (exfalso; omega)))]; exact f86) | (exfalso; have := R83.1 15 _ _ rfl; have := R83.1 16 _ _ rfl; have := R83.1 19 _ _ rfl; have := E88.f yS; omega))⟩
              · refine mv_aload_n d_TrustDeskModel_part_0_88 rfl rfl ?_
                refine mv_bipush (v := (-9)) d_TrustDeskModel_part_0_89 (by decide) ?_
                obtain ⟨_, b98, -⟩ := I81.1 _ _ t87
                have : ((-9) : Int32).toInt = (-9) := by decide
                refine mv_callV (kc' := 0) (ks' := 0) (As := [.int (-9)]) (st9 := [.int (-9), .ref o0]) d_TrustDeskModel_part_0_91 lV_TrustDeskModel_279 b98 rfl (tc_TrustDeskModel_emits_x (d := (d + 8)) (x9 := x9) (o0 := o0) (x1 := (-9)) t87 R83 (by have := R83.1 15 _ _ rfl; have := R83.1 16 _ _ rfl; have := R83.1 19 _ _ rfl; have := E88.f yS; omega) (by decide) I81.start) rfl (Nat.le_of_ble_eq_true rfl) (Nat.le_of_ble_eq_true rfl) (Nat.le_of_ble_eq_true rfl) (hst := rfl) (fun b92r M93 n94 b92 => ?_)
                obtain ⟨T95, J96, rfl, R99, f100⟩ := b92
                have I97 := I81.call J96 (tm_sub (by decide)) (Or.inl rfl)
                have t101 := J96.up t87
                have z102 := (rv_c I81 J96 (I81.up h_o0) (k := 16) rfl)
                have z103 := (rv_c I81 J96 (I81.up h_o0) (k := 17) rfl)
                have z104 := (rv_c I81 J96 (I81.up h_o0) (k := 19) rfl)
                have z105 := (rv_c I81 J96 (I81.up h_o0) (k := 22) rfl)
                have E106 : rE M0 M93 o0 1 (i1_1.toInt + (-1)) := E88.emit f100 (rE_hv I81 J96 (I81.up h_o0) 15 19 (by decide)) (yR.2 5 _ _ rfl 44).1 (by decide) (Or.inr (Or.inl ⟨by decide, by decide, by decide⟩)) (by omega)
                have Z9107 : pO M93 o0 pb pn pa s89 := f86.same (rE_hv I81 J96 (I81.up h_o0) 14 20 (by decide)) (rv_c I81 J96 (I81.up h_o0) (k := 23) rfl) (ra_call I81 J96 (I81.up h_o0) (k := 13) rfl rfl rfl)
                exact mv_vret d_TrustDeskModel_part_0_94 rfl ⟨_, I97, rfl, R99, E106.less (by omega), (by have := R99.1 15 _ _ rfl; have := R99.1 16 _ _ rfl; have := R99.1 19 _ _ rfl; have := E106.f yS; omega), (by first | (have := Z931.s4 (by omega) (by omega); have := pW0 (Im.o d32) (by omega); have := Z931.wk; have hX := e4.symm.trans (p_lp_stop (show (p_no1 pb pn) s2 = s2 from if_neg (fun h9 => by omega))); rw [show p_ter pb pn pa 0 (p_oc pb pn pa 0) ps = s89 from (by have hop : (p_oc pb pn pa 0) s2 = p_fl pb pn 4 s2 := rfl; unfold p_ter; rw [hX]; unfold p_te1; (try simp only [hop]); (try simp only [hX, e90]); ((repeat' (first | (with_reducible rfl) | split)) <;> (exfalso; omega)))]; exact Z9107) | (exfalso; have := R99.1 15 _ _ rfl; have := R99.1 16 _ _ rfl; have := R99.1 19 _ _ rfl; have := E106.f yS; omega))⟩
            · refine mv_iconst (v := 1) d_TrustDeskModel_isSign_16 (by decide) ?_
              refine mv_goto (tgt := 21) d_TrustDeskModel_isSign_17 (by decide) ?_
              refine mv_iret d_TrustDeskModel_isSign_21 rfl (by decide) ?_
              refine mv_if_eq_f (tgt := 80) d_TrustDeskModel_part_0_50 (by decide) (by decide) ?_
              refine mv_aload_n d_TrustDeskModel_part_0_53 rfl rfl ?_
              obtain ⟨_, b114, -⟩ := I16.1 _ _ t25
              refine mv_callV (kc' := 0) (ks' := 0) (As := []) (st9 := [.ref o0]) d_TrustDeskModel_part_0_54 lV_TrustDeskModel_285 b114 rfl (tc_TrustDeskModel_opens_x (d := (d + 7)) (x9 := x9) (o0 := o0) t25 R21 E30.1 (by have := R21.1 15 _ _ rfl; have := R21.1 16 _ _ rfl; have := R21.1 19 _ _ rfl; have := E30.f yS; omega) (by have := R21.1 15 _ _ rfl; have := R21.1 16 _ _ rfl; have := R21.1 19 _ _ rfl; have := E30.f yS; omega) (by have := R21.1 15 _ _ rfl; have := R21.1 16 _ _ rfl; have := R21.1 19 _ _ rfl; have := E30.f yS; omega) (by have := R21.1 15 _ _ rfl; have := R21.1 16 _ _ rfl; have := R21.1 19 _ _ rfl; have := E30.f yS; omega) Z931 I16.start) rfl (Nat.le_of_ble_eq_true rfl) (Nat.le_of_ble_eq_true rfl) (Nat.le_of_ble_eq_true rfl) (hst := rfl) (fun b108r M109 n110 b108 => ?_)
              obtain ⟨T111, J112, rfl, R115, f116, f117, f118⟩ := b108
              have I113 := I16.call J112 (tm_sub (by decide)) (Or.inl rfl)
              have t119 := J112.up t25
              have E120 : rE M0 M109 o0 0 (i1_1.toInt + 1) := E30.trans f116 (by decide) (yR.2 5 _ _ rfl 44).1 (by decide) (by omega)
              have := f116.w
              rw [if_pos (by have := R21.1 15 _ _ rfl; have := R21.1 16 _ _ rfl; have := R21.1 19 _ _ rfl; have := E30.f yS; omega)] at f118
              obtain ⟨s121, e122⟩ : ∃ s9 : p_S, p_fl pb pn 4 s2 = s9 := ⟨_, rfl⟩
              rw [e122] at f118
              have := f118.w
              refine mv_aload_n d_TrustDeskModel_part_0_57 rfl rfl ?_
              obtain ⟨_, b129, -⟩ := I113.1 _ _ t119
              refine mv_callV (kc' := 0) (ks' := 0) (As := []) (st9 := [.ref o0]) d_TrustDeskModel_part_0_58 lV_TrustDeskModel_302 b129 rfl (tc_TrustDeskModel_cond_q0_x (d := (d + 6)) (x9 := x9) (o0 := o0) t119 R115 E120.1 (by have := R115.1 15 _ _ rfl; have := R115.1 16 _ _ rfl; have := R115.1 19 _ _ rfl; have := E120.f yS; omega) (by have := R115.1 15 _ _ rfl; have := R115.1 16 _ _ rfl; have := R115.1 19 _ _ rfl; have := E120.f yS; omega) f118 I113.start) rfl (Nat.le_of_ble_eq_true rfl) (Nat.le_of_ble_eq_true rfl) (Nat.le_of_ble_eq_true rfl) (hst := rfl) (fun b123r M124 n125 b123 => ?_)
              obtain ⟨T126, J127, rfl, R130, f131, f132, f133⟩ := b123
              have I128 := I113.call J127 (tm_sub (by decide)) (Or.inl rfl)
              have t134 := J127.up t119
              have z135 := (rv_c I113 J127 (I113.up h_o0) (k := 16) rfl)
              have z136 := (rv_c I113 J127 (I113.up h_o0) (k := 17) rfl)
              have z137 := (rv_c I113 J127 (I113.up h_o0) (k := 19) rfl)
              have z138 := (rv_c I113 J127 (I113.up h_o0) (k := 22) rfl)
              have E139 : rE M0 M124 o0 1 (i1_1.toInt + 1) := E120.trans f131 (by decide) (yR.2 5 _ _ rfl 44).1 (by decide) (by omega)
              have := f131.w
              have := f133.w
              refine mv_aload_n d_TrustDeskModel_part_0_61 rfl rfl ?_
              refine mv_bipush (v := 93) d_TrustDeskModel_part_0_62 (by decide) ?_
              obtain ⟨_, b146, -⟩ := I128.1 _ _ t134
              have : (93 : Int32).toInt = 93 := by decide
              refine mv_callV (kc' := 0) (ks' := 0) (As := [.int 93]) (st9 := [.int 93, .ref o0]) d_TrustDeskModel_part_0_64 lV_TrustDeskModel_291 b146 rfl (tc_TrustDeskModel_wantSign_x (d := (d + 7)) (x9 := x9) (o0 := o0) (x1 := 93) t134 R130 E139.1 (by have := R130.1 15 _ _ rfl; have := R130.1 16 _ _ rfl; have := R130.1 19 _ _ rfl; have := E139.f yS; omega) (by decide) f133 I128.start) rfl (Nat.le_of_ble_eq_true rfl) (Nat.le_of_ble_eq_true rfl) (Nat.le_of_ble_eq_true rfl) (hst := rfl) (fun b140r M141 n142 b140 => ?_)
              obtain ⟨T143, J144, rfl, R147, f148, f149⟩ := b140
              have I145 := I128.call J144 (tm_sub (by decide)) (Or.inl rfl)
              have t150 := J144.up t134
              have z151 := (rv_c I128 J144 (I128.up h_o0) (k := 22) rfl).trans z138
              have E152 : rE M0 M141 o0 1 (i1_1.toInt + 2) := E139.trans f148 (by decide) (yR.2 5 _ _ rfl 44).1 (by decide) (by omega)
              have := f148.w
              rw [show (93 : Int32).toInt = 93 from by decide] at f149
              obtain ⟨s153, e154⟩ : ∃ s9 : p_S, p_sg pb pn 93 s121 = s9 := ⟨_, rfl⟩
              rw [e154] at f149
              have := f149.w
              clear z138
              refine mv_aload_n d_TrustDeskModel_part_0_67 rfl rfl ?_
              refine mv_dup d_TrustDeskModel_part_0_68 rfl ?_
              obtain ⟨v156, q155⟩ := tm_atI I145 t150 (k := 22) rfl
              refine tr_getK q155 d_TrustDeskModel_part_0_69 f_TrustDeskModel_276_13 ?_
              have := (tm_rv q155).symm.trans z151
              have := tm_rv q155
              refine mv_iconst (v := 1) d_TrustDeskModel_part_0_72 (by decide) ?_
              refine mv_isub d_TrustDeskModel_part_0_73 ?_
              have : rv M141 o0 19 = 0 → (v156 - 1 : Int32).toInt = v156.toInt - 1 := fun h9 => mz_sub2 rfl (by decide) (by omega) (by omega)
              refine tr_putR (k := 22) I145 R147 t150 rfl ⟨_, rfl⟩ (fun _ h => by cases h) rfl (fun lo hi h => by cases h) (Or.inl (by decide)) d_TrustDeskModel_part_0_74 p_TrustDeskModel_276_13 rfl rfl (fun M157 I158 q159 K160 R161 A162 V163 => ?_)
              have z164 := (V163 16 (by decide))
              have z165 := (V163 17 (by decide))
              have z166 := (V163 19 (by decide))
              have z167 : rv M157 o0 22 = (v156 - 1).toInt := tm_rv q159
              have E168 : rE M0 M157 o0 1 (i1_1.toInt + 2) := E152.same (fun k h1 h2 => V163 k (by omega)) (fun k h1 h2 => A162 k (by omega))
              have Z9169 : pO M157 o0 pb pn pa s153 := f149.same (fun k h1 h2 => V163 k (by omega)) (V163 23 (by decide)) (A162 13 (by decide))
              refine mv_goto (tgt := 84) d_TrustDeskModel_part_0_77 (by decide) ?_
              refine mv_iload_n d_TrustDeskModel_part_0_84 rfl rfl ?_
              have := mz_hi i1_1
              refine mv_if_eqZ (tgt := 94) (a := i1_1.toInt) d_TrustDeskModel_part_0_85 (by decide) rfl (fun b170 => ?_) (fun b170 => ?_)
              · exact mv_vret d_TrustDeskModel_part_0_94 rfl ⟨_, I158, rfl, R161, E168.less (by omega), (by have := R161.1 15 _ _ rfl; have := R161.1 16 _ _ rfl; have := R161.1 19 _ _ rfl; have := E168.f yS; omega), (by first | (have := Z931.s4 (by omega) (by omega); have := pW0 (Im.o d32) (by omega); have := Z931.wk; have hX := e4.symm.trans (p_lp_stop (show (p_no1 pb pn) s2 = s2 from if_neg (fun h9 => by omega))); rw [show p_sg pb pn 93 s121 = s121 from p_sg_Z _ (by omega)] at e154; rw [show p_ter pb pn pa 0 (p_oc pb pn pa 0) ps = s153 from (by have hop : (p_oc pb pn pa 0) s2 = p_fl pb pn 4 s2 := rfl; unfold p_ter; rw [hX]; unfold p_te1; (try simp only [hop]); (try simp only [hX, e122, e154]); ((repeat' (first | (with_reducible rfl) | split)) <;> (exfalso; omega)))]; exact Z9169) | (exfalso; have := R161.1 15 _ _ rfl; have := R161.1 16 _ _ rfl; have := R161.1 19 _ _ rfl; have := E168.f yS; omega))⟩
              · refine mv_aload_n d_TrustDeskModel_part_0_88 rfl rfl ?_
                refine mv_bipush (v := (-9)) d_TrustDeskModel_part_0_89 (by decide) ?_
                obtain ⟨_, b177, -⟩ := I158.1 _ _ t150
                have : ((-9) : Int32).toInt = (-9) := by decide
                refine mv_callV (kc' := 0) (ks' := 0) (As := [.int (-9)]) (st9 := [.int (-9), .ref o0]) d_TrustDeskModel_part_0_91 lV_TrustDeskModel_279 b177 rfl (tc_TrustDeskModel_emits_x (d := (d + 8)) (x9 := x9) (o0 := o0) (x1 := (-9)) t150 R161 (by have := R161.1 15 _ _ rfl; have := R161.1 16 _ _ rfl; have := R161.1 19 _ _ rfl; have := E168.f yS; omega) (by decide) I158.start) rfl (Nat.le_of_ble_eq_true rfl) (Nat.le_of_ble_eq_true rfl) (Nat.le_of_ble_eq_true rfl) (hst := rfl) (fun b171r M172 n173 b171 => ?_)
                obtain ⟨T174, J175, rfl, R178, f179⟩ := b171
                have I176 := I158.call J175 (tm_sub (by decide)) (Or.inl rfl)
                have t180 := J175.up t150
                have z181 := (rv_c I158 J175 (I158.up h_o0) (k := 16) rfl).trans z164
                have z182 := (rv_c I158 J175 (I158.up h_o0) (k := 17) rfl).trans z165
                have z183 := (rv_c I158 J175 (I158.up h_o0) (k := 19) rfl).trans z166
                have z184 := (rv_c I158 J175 (I158.up h_o0) (k := 22) rfl).trans z167
                have E185 : rE M0 M172 o0 1 (i1_1.toInt + 1) := E168.emit f179 (rE_hv I158 J175 (I158.up h_o0) 15 19 (by decide)) (yR.2 5 _ _ rfl 44).1 (by decide) (Or.inr (Or.inl ⟨by decide, by decide, by decide⟩)) (by omega)
                have Z9186 : pO M172 o0 pb pn pa s153 := Z9169.same (rE_hv I158 J175 (I158.up h_o0) 14 20 (by decide)) (rv_c I158 J175 (I158.up h_o0) (k := 23) rfl) (ra_call I158 J175 (I158.up h_o0) (k := 13) rfl rfl rfl)
                clear z164 z165 z166 z167
                have q187 := J175.keep t150 (by decide) q159
                exact mv_vret d_TrustDeskModel_part_0_94 rfl ⟨_, I176, rfl, R178, E185.less (by omega), (by have := R178.1 15 _ _ rfl; have := R178.1 16 _ _ rfl; have := R178.1 19 _ _ rfl; have := E185.f yS; omega), (by first | (have := Z931.s4 (by omega) (by omega); have := pW0 (Im.o d32) (by omega); have := Z931.wk; have hX := e4.symm.trans (p_lp_stop (show (p_no1 pb pn) s2 = s2 from if_neg (fun h9 => by omega))); rw [show p_sg pb pn 93 s121 = s121 from p_sg_Z _ (by omega)] at e154; rw [show p_ter pb pn pa 0 (p_oc pb pn pa 0) ps = s153 from (by have hop : (p_oc pb pn pa 0) s2 = p_fl pb pn 4 s2 := rfl; unfold p_ter; rw [hX]; unfold p_te1; (try simp only [hop]); (try simp only [hX, e122, e154]); ((repeat' (first | (with_reducible rfl) | split)) <;> (exfalso; omega)))]; exact Z9186) | (exfalso; have := R178.1 15 _ _ rfl; have := R178.1 16 _ _ rfl; have := R178.1 19 _ _ rfl; have := E185.f yS; omega))⟩
        · refine mv_aload_n d_TrustDeskModel_part_0_19 rfl rfl ?_
          obtain ⟨_, b194, -⟩ := I16.1 _ _ t25
          refine mv_callV (kc' := 0) (ks' := 0) (As := []) (st9 := [.ref o0]) d_TrustDeskModel_part_0_20 lV_TrustDeskModel_237 b194 rfl (tc_TrustDeskModel_next_x (d := (d + 8)) (x9 := x9) (o0 := o0) t25 R21 Z931.p I16.start) rfl (Nat.le_of_ble_eq_true rfl) (Nat.le_of_ble_eq_true rfl) (Nat.le_of_ble_eq_true rfl) (hst := rfl) (fun b188r M189 n190 b188 => ?_)
          obtain ⟨T191, J192, rfl, R195, f196, f197, f198⟩ := b188
          have I193 := I16.call J192 (tm_sub (by decide)) (Or.inl rfl)
          have t199 := J192.up t25
          have z200 := (rv_c I16 J192 (I16.up h_o0) (k := 19) rfl).trans z28
          have z201 := (rv_c I16 J192 (I16.up h_o0) (k := 22) rfl).trans z29
          have h203 : rv M12 o0 16 + 1 ≤ rv M12 o0 15 := (by have := R21.1 15 _ _ rfl; have := R21.1 16 _ _ rfl; have := R21.1 19 _ _ rfl; have := E30.f yS; omega)
          have E202 : rE M0 M189 o0 0 (i1_1.toInt + 1) := E30.next f196 f197 (rv_c I16 J192 (I16.up h_o0) (k := 19) rfl) (rE_ha I16 J192 (I16.up h_o0) (by decide)) (e := 1) h203 (by omega)
          obtain ⟨s204, e205⟩ : ∃ s9 : p_S, p_nx s2 = s9 := ⟨_, rfl⟩
          rw [e205] at f198
          have := f198.w
          clear z28 z29
          have q206 := J192.keep t25 (by decide) q33
          refine mv_iload_n d_TrustDeskModel_part_0_23 rfl rfl ?_
          have := mz_hi i1_1
          refine mv_if_neZ (tgt := 31) (a := i1_1.toInt) d_TrustDeskModel_part_0_24 (by decide) rfl (fun b207 => ?_) (fun b207 => ?_)
          · refine mv_iconst (v := 0) d_TrustDeskModel_part_0_31 (by decide) ?_
            refine mv_istore_n (lv' := [(1, .int 0), (0, .ref o0)]) d_TrustDeskModel_part_0_32 rfl (by decide) rfl ?_
            refine mv_goto (tgt := 2) d_TrustDeskModel_part_0_33 (by decide) ?_
            have T208 : ∃ s1 : p_S, pO M189 o0 pb pn pa s1 ∧ p_lp pn (p_no1 pb pn) s1 = p_lp pn (p_no1 pb pn) ps := ⟨s204, f198, (by have st : (p_no1 pb pn) s2 = s204 := (by have := pW1 (Im.o d32) (by omega); have := Z931.wk; rw [show (p_no1 pb pn) s2 = p_nx s2 from if_pos ⟨by omega, by omega⟩]; simp only [e205]); rw [← st, p_P.go p_no1_P s2]; exact e4)⟩
            have E209 : rE M0 M189 o0 0 0 := E202.less (by omega)
            exact (ih1 0 T191 M189 n190 I193 t199 (by have := R195.1 15 _ _ rfl; have := R195.1 16 _ _ rfl; have := R195.1 19 _ _ rfl; have := E209.f yS; first | omega | decide | exact fun h9 => absurd (by decide) h9) (by have := R195.1 15 _ _ rfl; have := R195.1 16 _ _ rfl; have := R195.1 19 _ _ rfl; have := E209.f yS; first | omega | decide | exact fun h9 => absurd (by decide) h9) (by have := R195.1 15 _ _ rfl; have := R195.1 16 _ _ rfl; have := R195.1 19 _ _ rfl; have := E209.f yS; first | omega | decide | exact fun h9 => absurd (by decide) h9) R195 E209 T208 (by have := R195.1 15 _ _ rfl; have := R195.1 16 _ _ rfl; have := R195.1 19 _ _ rfl; have := E209.f yS; omega))
          · refine mv_iconst (v := 1) d_TrustDeskModel_part_0_27 (by decide) ?_
            refine mv_goto (tgt := 32) d_TrustDeskModel_part_0_28 (by decide) ?_
            refine mv_istore_n (lv' := [(1, .int 1), (0, .ref o0)]) d_TrustDeskModel_part_0_32 rfl (by decide) rfl ?_
            refine mv_goto (tgt := 2) d_TrustDeskModel_part_0_33 (by decide) ?_
            have T210 : ∃ s1 : p_S, pO M189 o0 pb pn pa s1 ∧ p_lp pn (p_no1 pb pn) s1 = p_lp pn (p_no1 pb pn) ps := ⟨s204, f198, (by have st : (p_no1 pb pn) s2 = s204 := (by have := pW1 (Im.o d32) (by omega); have := Z931.wk; rw [show (p_no1 pb pn) s2 = p_nx s2 from if_pos ⟨by omega, by omega⟩]; simp only [e205]); rw [← st, p_P.go p_no1_P s2]; exact e4)⟩
            have E211 : rE M0 M189 o0 0 1 := E202.less (by omega)
            exact (ih1 1 T191 M189 n190 I193 t199 (by have := R195.1 15 _ _ rfl; have := R195.1 16 _ _ rfl; have := R195.1 19 _ _ rfl; have := E211.f yS; first | omega | decide | exact fun h9 => absurd (by decide) h9) (by have := R195.1 15 _ _ rfl; have := R195.1 16 _ _ rfl; have := R195.1 19 _ _ rfl; have := E211.f yS; first | omega | decide | exact fun h9 => absurd (by decide) h9) (by have := R195.1 15 _ _ rfl; have := R195.1 16 _ _ rfl; have := R195.1 19 _ _ rfl; have := E211.f yS; first | omega | decide | exact fun h9 => absurd (by decide) h9) R195 E211 T210 (by have := R195.1 15 _ _ rfl; have := R195.1 16 _ _ rfl; have := R195.1 19 _ _ rfl; have := E211.f yS; omega))
  have T212 : ∃ s1 : p_S, pO M0 o0 pb pn pa s1 ∧ p_lp pn (p_no1 pb pn) s1 = p_lp pn (p_no1 pb pn) ps := ⟨ps, yO, rfl⟩
  exact mv_less (Nat.zero_le _) (Nat.zero_le _) (L2_1 4294967296 0 T0 M0 n0 I0 h_o0 (by have := yR.1 15 _ _ rfl; have := yR.1 16 _ _ rfl; have := yR.1 19 _ _ rfl; have := yE0.f yS; first | omega | decide | exact fun h9 => absurd (by decide) h9) (by have := yR.1 15 _ _ rfl; have := yR.1 16 _ _ rfl; have := yR.1 19 _ _ rfl; have := yE0.f yS; first | omega | decide | exact fun h9 => absurd (by decide) h9) (by have := yR.1 15 _ _ rfl; have := yR.1 16 _ _ rfl; have := yR.1 19 _ _ rfl; have := yE0.f yS; first | omega | decide | exact fun h9 => absurd (by decide) h9) yR yE0 T212 (by have := yR.1 15 _ _ rfl; have := yR.1 16 _ _ rfl; have := yR.1 19 _ _ rfl; have := yE0.f yS; omega))
theorem d_TrustDeskModel_both_11 : decode kY_TrustDeskModel_both.2.1 11 = .ok (.aload_n 0, 1) := by decide +kernel
theorem d_TrustDeskModel_both_12 : decode kY_TrustDeskModel_both.2.1 12 = .ok (.ldc_w 310, 3) := by decide +kernel
theorem d_TrustDeskModel_both_15 : decode kY_TrustDeskModel_both.2.1 15 = .ok (.invokevirtual 244, 3) := by decide +kernel
def w_TrustDeskModel_isWord_s1_40_x : List Nat := []
set_option maxHeartbeats 100000000 in theorem tc_TrustDeskModel_isWord_s1_40_x {g : mj_G} {l : Launch} {d : Nat} {T0 : tm_H} {M0 : mj_M} {n0 x9 : Nat} {o0 : Nat} (h_o0 : T0 o0 = some (0, 13, 0)) (yR : rI M0 o0) (I0 : tm_I tm_FT (tm_in w_TrustDeskModel_isWord_s1_40_x) x9 T0 M0 n0 T0 M0 n0) : mj_Met g l kY_TrustDeskModel_isWord (d + 4) [.ref o0, .ref 40] M0 n0 0 0 (tm_Q tm_FT (tm_in w_TrustDeskModel_isWord_s1_40_x) x9 T0 M0 n0 (fun r _ M => ∃ v : Int32, r = some (.int v) ∧ 0 ≤ v.toInt ∧ v.toInt ≤ 1 ∧ rI M o0 ∧ (v.toInt = 1 → rv M0 o0 17 = 3) ∧ (v.toInt = 1 → rv M0 o0 17 = 3 ∧ rv M0 o0 15 - rv M0 o0 16 = 3 ∧ ra M0 o0 13 ((rv M0 o0 16).toNat + 0) = 97 ∧ ra M0 o0 13 ((rv M0 o0 16).toNat + 1) = 110 ∧ ra M0 o0 13 ((rv M0 o0 16).toNat + 2) = 100) ∧ (v.toInt = 0 → ¬ (rv M0 o0 17 = 3 ∧ rv M0 o0 15 - rv M0 o0 16 = 3 ∧ ra M0 o0 13 ((rv M0 o0 16).toNat + 0) = 97 ∧ ra M0 o0 13 ((rv M0 o0 16).toNat + 1) = 110 ∧ ra M0 o0 13 ((rv M0 o0 16).toNat + 2) = 100)))) := by
  refine mj_enter (by decide) (Nat.le_of_ble_eq_true rfl) ?_
  refine mv_aload_n d_TrustDeskModel_isWord_0 rfl rfl ?_
  obtain ⟨v2, q1⟩ := tm_atI I0 h_o0 (k := 17) rfl
  refine tr_getK q1 d_TrustDeskModel_isWord_1 f_TrustDeskModel_198_13 ?_
  have := tm_rv q1
  refine mv_iconst (v := 3) d_TrustDeskModel_isWord_4 (by decide) ?_
  have := mz_hi v2
  refine mv_icmp_neZ (tgt := 24) (a := v2.toInt) (b := 3) d_TrustDeskModel_isWord_5 (by decide) rfl (by decide) (fun b3 => ?_) (fun b3 => ?_)
  · refine mv_iconst (v := 0) d_TrustDeskModel_isWord_24 (by decide) ?_
    exact mv_iret d_TrustDeskModel_isWord_25 rfl (by decide) ⟨_, I0, _, rfl, by decide, by decide, yR, (fun h => absurd h (by decide)), (fun h => absurd h (by decide)), (fun _ h => by obtain ⟨h1, h2, h3, h4, h5⟩ := h; have := yR.1 15 _ _ rfl; have := yR.1 16 _ _ rfl; have := yR.1 19 _ _ rfl; omega)⟩
  · refine mv_aload_n d_TrustDeskModel_isWord_8 rfl rfl ?_
    obtain ⟨v5, q4⟩ := tm_atI I0 h_o0 (k := 15) rfl
    refine tr_getK q4 d_TrustDeskModel_isWord_9 f_TrustDeskModel_192_13 ?_
    have := yR.f (k := 15) q4 rfl
    have := tm_rv q4
    refine mv_aload_n d_TrustDeskModel_isWord_12 rfl rfl ?_
    obtain ⟨v7, q6⟩ := tm_atI I0 h_o0 (k := 16) rfl
    refine tr_getK q6 d_TrustDeskModel_isWord_13 f_TrustDeskModel_195_13 ?_
    have := yR.f (k := 16) q6 rfl
    have := tm_rv q6
    refine mv_isub d_TrustDeskModel_isWord_16 ?_
    refine mv_aload_n d_TrustDeskModel_isWord_17 rfl rfl ?_
    refine mv_slenK (i := 30) (v := 3) d_TrustDeskModel_isWord_18 lV_TrustDeskModel_214 (by decide) rfl (by decide) (Nat.le_of_ble_eq_true rfl) ?_
    have b8 : (v5 - v7 : Int32).toInt = (v5.toInt - v7.toInt) := mz_sub2 rfl rfl (by have := yR.1 15 _ _ rfl; have := yR.1 16 _ _ rfl; have := yR.1 19 _ _ rfl; omega) (by have := yR.1 15 _ _ rfl; have := yR.1 16 _ _ rfl; have := yR.1 19 _ _ rfl; omega)
    have := mz_hi (v5 - v7)
    refine mv_icmp_eqZ (tgt := 26) (a := (v5 - v7).toInt) (b := 3) d_TrustDeskModel_isWord_21 (by decide) rfl (by decide) (fun b9 => ?_) (fun b9 => ?_)
    · refine mv_iconst (v := 0) d_TrustDeskModel_isWord_26 (by decide) ?_
      refine mv_istore_n (lv' := [(2, .int 0), (0, .ref o0), (1, .ref 40)]) d_TrustDeskModel_isWord_27 rfl (by decide) rfl ?_
      refine mv_iload_n d_TrustDeskModel_isWord_28 rfl rfl ?_
      refine mv_aload_n d_TrustDeskModel_isWord_29 rfl rfl ?_
      refine mv_slenK (i := 30) (v := 3) d_TrustDeskModel_isWord_30 lV_TrustDeskModel_214 (by decide) rfl (by decide) (Nat.le_of_ble_eq_true rfl) ?_
      refine mv_icmp_ge_f (tgt := 63) d_TrustDeskModel_isWord_33 (by decide) (by decide) ?_
      refine mv_aload_n d_TrustDeskModel_isWord_36 rfl rfl ?_
      obtain ⟨a11, q10, t_a11⟩ := tm_atR I0 h_o0 (k := 13) rfl
      refine tr_getK q10 d_TrustDeskModel_isWord_37 f_TrustDeskModel_44_13 ?_
      refine mv_aload_n d_TrustDeskModel_isWord_40 rfl rfl ?_
      refine tr_getK (k := 16) q6 d_TrustDeskModel_isWord_41 f_TrustDeskModel_195_13 ?_
      refine mv_iload_n d_TrustDeskModel_isWord_44 rfl rfl ?_
      refine mv_iadd d_TrustDeskModel_isWord_45 ?_
      have b12 : (v7 + 0 : Int32).toInt = (v7.toInt + 0) := mz_add2 rfl (by decide) (by have := yR.1 15 _ _ rfl; have := yR.1 16 _ _ rfl; have := yR.1 19 _ _ rfl; omega) (by have := yR.1 15 _ _ rfl; have := yR.1 16 _ _ rfl; have := yR.1 19 _ _ rfl; omega)
      refine tr_baldR (o := o0) (k := 13) I0 q10 t_a11 (by decide) d_TrustDeskModel_isWord_46 (vp_in_iff.mpr (by have := yR.1 15 _ _ rfl; have := yR.1 16 _ _ rfl; have := yR.1 19 _ _ rfl; omega)) (fun v13 e14 => ?_)
      have := yR.a (k := 13) rfl ((v7 + 0) : Int32).toNatClampNeg
      have h15 : (v7 + 0).toNatClampNeg = (rv M0 o0 16).toNat + 0 := by have := mz_nat9 (i := (v7 + 0)) (by have := yR.1 15 _ _ rfl; have := yR.1 16 _ _ rfl; have := yR.1 19 _ _ rfl; omega); have := yR.1 15 _ _ rfl; have := yR.1 16 _ _ rfl; have := yR.1 19 _ _ rfl; omega
      have : v13.toInt = ra M0 o0 13 ((rv M0 o0 16).toNat + 0) := by rw [e14, h15]
      refine mv_aload_n d_TrustDeskModel_isWord_47 rfl rfl ?_
      refine mv_iload_n d_TrustDeskModel_isWord_48 rfl rfl ?_
      refine mv_schC (i := 30) (v := 97) d_TrustDeskModel_isWord_49 lV_TrustDeskModel_220 (by decide) rfl (by decide) (by decide) (Nat.le_of_ble_eq_true rfl) (by decide) ?_
      have := mz_hi v13
      refine mv_icmp_eqZ (tgt := 57) (a := v13.toInt) (b := 97) d_TrustDeskModel_isWord_52 (by decide) rfl (by decide) (fun b16 => ?_) (fun b16 => ?_)
      · refine mv_iinc (v := 1) (lv' := [(2, .int 1), (0, .ref o0), (1, .ref 40)]) d_TrustDeskModel_isWord_57 rfl (by decide) (by decide) rfl ?_
        refine mv_goto (tgt := 28) d_TrustDeskModel_isWord_60 (by decide) ?_
        refine mv_iload_n d_TrustDeskModel_isWord_28 rfl rfl ?_
        refine mv_aload_n d_TrustDeskModel_isWord_29 rfl rfl ?_
        refine mv_slenK (i := 30) (v := 3) d_TrustDeskModel_isWord_30 lV_TrustDeskModel_214 (by decide) rfl (by decide) (Nat.le_of_ble_eq_true rfl) ?_
        refine mv_icmp_ge_f (tgt := 63) d_TrustDeskModel_isWord_33 (by decide) (by decide) ?_
        refine mv_aload_n d_TrustDeskModel_isWord_36 rfl rfl ?_
        refine tr_getK (k := 13) q10 d_TrustDeskModel_isWord_37 f_TrustDeskModel_44_13 ?_
        refine mv_aload_n d_TrustDeskModel_isWord_40 rfl rfl ?_
        refine tr_getK (k := 16) q6 d_TrustDeskModel_isWord_41 f_TrustDeskModel_195_13 ?_
        refine mv_iload_n d_TrustDeskModel_isWord_44 rfl rfl ?_
        refine mv_iadd d_TrustDeskModel_isWord_45 ?_
        have b17 : (v7 + 1 : Int32).toInt = (v7.toInt + 1) := mz_add2 rfl (by decide) (by have := yR.1 15 _ _ rfl; have := yR.1 16 _ _ rfl; have := yR.1 19 _ _ rfl; omega) (by have := yR.1 15 _ _ rfl; have := yR.1 16 _ _ rfl; have := yR.1 19 _ _ rfl; omega)
        refine tr_baldR (o := o0) (k := 13) I0 q10 t_a11 (by decide) d_TrustDeskModel_isWord_46 (vp_in_iff.mpr (by have := yR.1 15 _ _ rfl; have := yR.1 16 _ _ rfl; have := yR.1 19 _ _ rfl; omega)) (fun v18 e19 => ?_)
        have := yR.a (k := 13) rfl ((v7 + 1) : Int32).toNatClampNeg
        have h20 : (v7 + 1).toNatClampNeg = (rv M0 o0 16).toNat + 1 := by have := mz_nat9 (i := (v7 + 1)) (by have := yR.1 15 _ _ rfl; have := yR.1 16 _ _ rfl; have := yR.1 19 _ _ rfl; omega); have := yR.1 15 _ _ rfl; have := yR.1 16 _ _ rfl; have := yR.1 19 _ _ rfl; omega
        have : v18.toInt = ra M0 o0 13 ((rv M0 o0 16).toNat + 1) := by rw [e19, h20]
        refine mv_aload_n d_TrustDeskModel_isWord_47 rfl rfl ?_
        refine mv_iload_n d_TrustDeskModel_isWord_48 rfl rfl ?_
        refine mv_schC (i := 30) (v := 110) d_TrustDeskModel_isWord_49 lV_TrustDeskModel_220 (by decide) rfl (by decide) (by decide) (Nat.le_of_ble_eq_true rfl) (by decide) ?_
        have := mz_hi v18
        refine mv_icmp_eqZ (tgt := 57) (a := v18.toInt) (b := 110) d_TrustDeskModel_isWord_52 (by decide) rfl (by decide) (fun b21 => ?_) (fun b21 => ?_)
        · refine mv_iinc (v := 2) (lv' := [(2, .int 2), (0, .ref o0), (1, .ref 40)]) d_TrustDeskModel_isWord_57 rfl (by decide) (by decide) rfl ?_
          refine mv_goto (tgt := 28) d_TrustDeskModel_isWord_60 (by decide) ?_
          refine mv_iload_n d_TrustDeskModel_isWord_28 rfl rfl ?_
          refine mv_aload_n d_TrustDeskModel_isWord_29 rfl rfl ?_
          refine mv_slenK (i := 30) (v := 3) d_TrustDeskModel_isWord_30 lV_TrustDeskModel_214 (by decide) rfl (by decide) (Nat.le_of_ble_eq_true rfl) ?_
          refine mv_icmp_ge_f (tgt := 63) d_TrustDeskModel_isWord_33 (by decide) (by decide) ?_
          refine mv_aload_n d_TrustDeskModel_isWord_36 rfl rfl ?_
          refine tr_getK (k := 13) q10 d_TrustDeskModel_isWord_37 f_TrustDeskModel_44_13 ?_
          refine mv_aload_n d_TrustDeskModel_isWord_40 rfl rfl ?_
          refine tr_getK (k := 16) q6 d_TrustDeskModel_isWord_41 f_TrustDeskModel_195_13 ?_
          refine mv_iload_n d_TrustDeskModel_isWord_44 rfl rfl ?_
          refine mv_iadd d_TrustDeskModel_isWord_45 ?_
          have b22 : (v7 + 2 : Int32).toInt = (v7.toInt + 2) := mz_add2 rfl (by decide) (by have := yR.1 15 _ _ rfl; have := yR.1 16 _ _ rfl; have := yR.1 19 _ _ rfl; omega) (by have := yR.1 15 _ _ rfl; have := yR.1 16 _ _ rfl; have := yR.1 19 _ _ rfl; omega)
          refine tr_baldR (o := o0) (k := 13) I0 q10 t_a11 (by decide) d_TrustDeskModel_isWord_46 (vp_in_iff.mpr (by have := yR.1 15 _ _ rfl; have := yR.1 16 _ _ rfl; have := yR.1 19 _ _ rfl; omega)) (fun v23 e24 => ?_)
          have := yR.a (k := 13) rfl ((v7 + 2) : Int32).toNatClampNeg
          have h25 : (v7 + 2).toNatClampNeg = (rv M0 o0 16).toNat + 2 := by have := mz_nat9 (i := (v7 + 2)) (by have := yR.1 15 _ _ rfl; have := yR.1 16 _ _ rfl; have := yR.1 19 _ _ rfl; omega); have := yR.1 15 _ _ rfl; have := yR.1 16 _ _ rfl; have := yR.1 19 _ _ rfl; omega
          have : v23.toInt = ra M0 o0 13 ((rv M0 o0 16).toNat + 2) := by rw [e24, h25]
          refine mv_aload_n d_TrustDeskModel_isWord_47 rfl rfl ?_
          refine mv_iload_n d_TrustDeskModel_isWord_48 rfl rfl ?_
          refine mv_schC (i := 30) (v := 100) d_TrustDeskModel_isWord_49 lV_TrustDeskModel_220 (by decide) rfl (by decide) (by decide) (Nat.le_of_ble_eq_true rfl) (by decide) ?_
          have := mz_hi v23
          refine mv_icmp_eqZ (tgt := 57) (a := v23.toInt) (b := 100) d_TrustDeskModel_isWord_52 (by decide) rfl (by decide) (fun b26 => ?_) (fun b26 => ?_)
          · refine mv_iinc (v := 3) (lv' := [(2, .int 3), (0, .ref o0), (1, .ref 40)]) d_TrustDeskModel_isWord_57 rfl (by decide) (by decide) rfl ?_
            refine mv_goto (tgt := 28) d_TrustDeskModel_isWord_60 (by decide) ?_
            refine mv_iload_n d_TrustDeskModel_isWord_28 rfl rfl ?_
            refine mv_aload_n d_TrustDeskModel_isWord_29 rfl rfl ?_
            refine mv_slenK (i := 30) (v := 3) d_TrustDeskModel_isWord_30 lV_TrustDeskModel_214 (by decide) rfl (by decide) (Nat.le_of_ble_eq_true rfl) ?_
            refine mv_icmp_ge_t (tgt := 63) d_TrustDeskModel_isWord_33 (by decide) (by decide) ?_
            refine mv_iconst (v := 1) d_TrustDeskModel_isWord_63 (by decide) ?_
            exact mv_iret d_TrustDeskModel_isWord_64 rfl (by decide) ⟨_, I0, _, rfl, by decide, by decide, yR, (fun _ => by have := yR.1 15 _ _ rfl; have := yR.1 16 _ _ rfl; have := yR.1 19 _ _ rfl; omega), (fun _ => ⟨by have := yR.1 15 _ _ rfl; have := yR.1 16 _ _ rfl; have := yR.1 19 _ _ rfl; omega, by have := yR.1 15 _ _ rfl; have := yR.1 16 _ _ rfl; have := yR.1 19 _ _ rfl; omega, by have := yR.1 15 _ _ rfl; have := yR.1 16 _ _ rfl; have := yR.1 19 _ _ rfl; omega, by have := yR.1 15 _ _ rfl; have := yR.1 16 _ _ rfl; have := yR.1 19 _ _ rfl; omega, by have := yR.1 15 _ _ rfl; have := yR.1 16 _ _ rfl; have := yR.1 19 _ _ rfl; omega⟩), (fun h => absurd h (by decide))⟩
          · refine mv_iconst (v := 0) d_TrustDeskModel_isWord_55 (by decide) ?_
            exact mv_iret d_TrustDeskModel_isWord_56 rfl (by decide) ⟨_, I0, _, rfl, by decide, by decide, yR, (fun h => absurd h (by decide)), (fun h => absurd h (by decide)), (fun _ h => by obtain ⟨h1, h2, h3, h4, h5⟩ := h; have := yR.1 15 _ _ rfl; have := yR.1 16 _ _ rfl; have := yR.1 19 _ _ rfl; omega)⟩
        · refine mv_iconst (v := 0) d_TrustDeskModel_isWord_55 (by decide) ?_
          exact mv_iret d_TrustDeskModel_isWord_56 rfl (by decide) ⟨_, I0, _, rfl, by decide, by decide, yR, (fun h => absurd h (by decide)), (fun h => absurd h (by decide)), (fun _ h => by obtain ⟨h1, h2, h3, h4, h5⟩ := h; have := yR.1 15 _ _ rfl; have := yR.1 16 _ _ rfl; have := yR.1 19 _ _ rfl; omega)⟩
      · refine mv_iconst (v := 0) d_TrustDeskModel_isWord_55 (by decide) ?_
        exact mv_iret d_TrustDeskModel_isWord_56 rfl (by decide) ⟨_, I0, _, rfl, by decide, by decide, yR, (fun h => absurd h (by decide)), (fun h => absurd h (by decide)), (fun _ h => by obtain ⟨h1, h2, h3, h4, h5⟩ := h; have := yR.1 15 _ _ rfl; have := yR.1 16 _ _ rfl; have := yR.1 19 _ _ rfl; omega)⟩
    · refine mv_iconst (v := 0) d_TrustDeskModel_isWord_24 (by decide) ?_
      exact mv_iret d_TrustDeskModel_isWord_25 rfl (by decide) ⟨_, I0, _, rfl, by decide, by decide, yR, (fun h => absurd h (by decide)), (fun h => absurd h (by decide)), (fun _ h => by obtain ⟨h1, h2, h3, h4, h5⟩ := h; have := yR.1 15 _ _ rfl; have := yR.1 16 _ _ rfl; have := yR.1 19 _ _ rfl; omega)⟩
theorem d_TrustDeskModel_both_18 : decode kY_TrustDeskModel_both.2.1 18 = .ok (.ifCond .eq 20, 3) := by decide +kernel
theorem d_TrustDeskModel_both_21 : decode kY_TrustDeskModel_both.2.1 21 = .ok (.aload_n 0, 1) := by decide +kernel
theorem d_TrustDeskModel_both_22 : decode kY_TrustDeskModel_both.2.1 22 = .ok (.invokevirtual 237, 3) := by decide +kernel
theorem d_TrustDeskModel_both_25 : decode kY_TrustDeskModel_both.2.1 25 = .ok (.aload_n 0, 1) := by decide +kernel
theorem d_TrustDeskModel_both_26 : decode kY_TrustDeskModel_both.2.1 26 = .ok (.invokevirtual 308, 3) := by decide +kernel
theorem d_TrustDeskModel_both_29 : decode kY_TrustDeskModel_both.2.1 29 = .ok (.aload_n 0, 1) := by decide +kernel
theorem d_TrustDeskModel_both_30 : decode kY_TrustDeskModel_both.2.1 30 = .ok (.bipush (-7), 2) := by decide +kernel
theorem d_TrustDeskModel_both_32 : decode kY_TrustDeskModel_both.2.1 32 = .ok (.invokevirtual 279, 3) := by decide +kernel
theorem d_TrustDeskModel_both_35 : decode kY_TrustDeskModel_both.2.1 35 = .ok (.goto (-31), 3) := by decide +kernel
def w_TrustDeskModel_both_q1_x : List Nat := [1315, 1316, 1317, 1318, 1319, 1320, 1322, 20004, 20005]
set_option maxHeartbeats 100000000 in theorem tc_TrustDeskModel_both_q1_x {g : mj_G} {l : Launch} {d : Nat} {T0 : tm_H} {M0 : mj_M} {n0 x9 : Nat} {o0 : Nat} (h_o0 : T0 o0 = some (0, 13, 0)) (yR : rI M0 o0) (yT : rT M0 o0) (yS : rv M0 o0 19 = 0 → ra M0 o0 5 44 ≤ rv M0 o0 16) (yL : rv M0 o0 19 ≠ 0 ∨ (4 ≤ rv M0 o0 22 ∧ rv M0 o0 22 ≤ 4)) {pb : Nat → Int} {pn : Nat} {pa : Int} {ps : p_S} (yO : pO M0 o0 pb pn pa ps) (I0 : tm_I tm_FT (tm_in w_TrustDeskModel_both_q1_x) x9 T0 M0 n0 T0 M0 n0) : mj_Met g l kY_TrustDeskModel_both (d + 11) [.ref o0] M0 n0 0 0 (tm_Q tm_FT (tm_in w_TrustDeskModel_both_q1_x) x9 T0 M0 n0 (fun r _ M => r = none ∧ rI M o0 ∧ (rE M0 M o0 1 0) ∧ (rv M o0 19 = 0 → rv M o0 22 = rv M0 o0 22) ∧ (pO M o0 pb pn pa (p_bot pb pn pa 0 (p_oc pb pn pa 0) ps)))) := by
  refine mj_enter (by decide) (Nat.le_of_ble_eq_true rfl) ?_
  have yE0 := rE.rf yT
  have := yO.w
  refine mv_aload_n d_TrustDeskModel_both_0 rfl rfl ?_
  obtain ⟨_, b7, -⟩ := I0.1 _ _ h_o0
  refine mv_callV (kc' := 0) (ks' := 0) (As := []) (st9 := [.ref o0]) d_TrustDeskModel_both_1 lV_TrustDeskModel_308 b7 rfl (tc_TrustDeskModel_part_0_q1_x (d := d) (x9 := x9) (o0 := o0) h_o0 yR yE0.1 (by have := yR.1 15 _ _ rfl; have := yR.1 16 _ _ rfl; have := yR.1 19 _ _ rfl; have := yE0.f yS; omega) (by have := yR.1 15 _ _ rfl; have := yR.1 16 _ _ rfl; have := yR.1 19 _ _ rfl; have := yE0.f yS; omega) yO I0.start) rfl (Nat.le_of_ble_eq_true rfl) (Nat.le_of_ble_eq_true rfl) (Nat.le_of_ble_eq_true rfl) (hst := rfl) (fun b1r M2 n3 b1 => ?_)
  obtain ⟨T4, J5, rfl, R8, f9, f10, f11⟩ := b1
  have I6 := I0.call J5 (tm_sub (by decide)) (Or.inl rfl)
  have t12 := J5.up h_o0
  have E13 : rE M0 M2 o0 1 0 := yE0.trans f9 (by decide) (yR.2 5 _ _ rfl 44).1 (by decide) (by decide)
  have := f9.w
  obtain ⟨s14, e15⟩ : ∃ s9 : p_S, p_ter pb pn pa 0 (p_oc pb pn pa 0) ps = s9 := ⟨_, rfl⟩
  rw [e15] at f11
  have := f11.w
  have L4_16 : ∀ (k : Nat) (T_16 : tm_H) (M_16 : mj_M) (n_16 : Nat), tm_I tm_FT (tm_in w_TrustDeskModel_both_q1_x) x9 T0 M0 n0 T_16 M_16 n_16 → T_16 o0 = some (0, 13, 0) → (rv M_16 o0 19 = 0 → rv M_16 o0 22 = rv M0 o0 22) → (rI M_16 o0) → (rE M0 M_16 o0 1 0) → (∃ s1 : p_S, pO M_16 o0 pb pn pa s1 ∧ p_lp pn (p_bo1 pb pn pa 0 (p_oc pb pn pa 0)) s1 = p_bot pb pn pa 0 (p_oc pb pn pa 0) ps) → 5 * (401 - rv M_16 o0 16) - rv M_16 o0 19 < (k : Int) → mj_V g l kY_TrustDeskModel_both (d + 11) 4 [(0, .ref o0)] [] M_16 n_16 0 0 (tm_Q tm_FT (tm_in w_TrustDeskModel_both_q1_x) x9 T0 M0 n0 (fun r _ M => r = none ∧ rI M o0 ∧ (rE M0 M o0 1 0) ∧ (rv M o0 19 = 0 → rv M o0 22 = rv M0 o0 22) ∧ (pO M o0 pb pn pa (p_bot pb pn pa 0 (p_oc pb pn pa 0) ps)))) := by
    intro k16
    induction k16 with
    | zero =>
      intro T_16 M_16 n_16 I_16 h_q0_16 iv0_16 kKR_16 kKE_16 kKT9_16 hk16
      have := kKR_16.1 15 _ _ rfl
      have := kKR_16.1 16 _ _ rfl
      have := kKR_16.1 19 _ _ rfl
      exfalso; omega
    | succ k16 ih16 =>
      intro T_16 M_16 n_16 I_16 h_q0_16 iv0_16 kKR_16 kKE_16 kKT9_16 hk16
      have := kKE_16.f yS
      obtain ⟨s17, Z918, e19⟩ := kKT9_16
      have := Z918.w
      refine mv_aload_n d_TrustDeskModel_both_4 rfl rfl ?_
      obtain ⟨_, b20, -⟩ := I_16.1 _ _ h_q0_16
      refine mv_callV (kc1 := 0) (ks1 := 0) (kc' := 0) (ks' := 0) (As := []) (st9 := [.ref o0]) d_TrustDeskModel_both_5 lV_TrustDeskModel_230 b20 rfl (mj_enter (by decide) (Nat.le_of_ble_eq_true rfl) ?_) rfl (Nat.le_of_ble_eq_true rfl) (Nat.le_of_ble_eq_true rfl) (Nat.le_of_ble_eq_true rfl) (hst := rfl) (fun _ _ _ h => h)
      refine mv_aload_n d_TrustDeskModel_isWell_0 rfl rfl ?_
      obtain ⟨v22, q21⟩ := tm_atI I_16 h_q0_16 (k := 19) rfl
      refine tr_getK q21 d_TrustDeskModel_isWell_1 f_TrustDeskModel_224_13 ?_
      have := kKR_16.f (k := 19) q21 rfl
      have := tm_rv q21
      have := mz_hi v22
      refine mv_if_neZ (tgt := 11) (a := v22.toInt) d_TrustDeskModel_isWell_4 (by decide) rfl (fun b23 => ?_) (fun b23 => ?_)
      · refine mv_iconst (v := 0) d_TrustDeskModel_isWell_11 (by decide) ?_
        refine mv_iret d_TrustDeskModel_isWell_12 rfl (by decide) ?_
        refine mv_if_eq_t (tgt := 38) d_TrustDeskModel_both_8 (by decide) (by decide) ?_
        exact mv_vret d_TrustDeskModel_both_38 rfl ⟨_, I_16, rfl, kKR_16, kKE_16, (by have := kKR_16.1 15 _ _ rfl; have := kKR_16.1 16 _ _ rfl; have := kKR_16.1 19 _ _ rfl; have := kKE_16.f yS; omega), (by first | (have hX := e19.symm.trans (p_lp_stop (show (p_bo1 pb pn pa 0 (p_oc pb pn pa 0)) s17 = s17 from if_neg (fun h9 => by omega))); rw [show p_bot pb pn pa 0 (p_oc pb pn pa 0) ps = s17 from (by exact hX)]; exact Z918) | (exfalso; have := kKR_16.1 15 _ _ rfl; have := kKR_16.1 16 _ _ rfl; have := kKR_16.1 19 _ _ rfl; have := kKE_16.f yS; omega))⟩
      · refine mv_iconst (v := 1) d_TrustDeskModel_isWell_7 (by decide) ?_
        refine mv_goto (tgt := 12) d_TrustDeskModel_isWell_8 (by decide) ?_
        refine mv_iret d_TrustDeskModel_isWell_12 rfl (by decide) ?_
        refine mv_if_eq_f (tgt := 38) d_TrustDeskModel_both_8 (by decide) (by decide) ?_
        refine mv_aload_n d_TrustDeskModel_both_11 rfl rfl ?_
        refine mv_ldcSw (id := 40) (tx := "and") d_TrustDeskModel_both_12 (List.mem_of_getElem? (i := 30) rfl) ?_
        obtain ⟨_, b30, -⟩ := I_16.1 _ _ h_q0_16
        refine mv_callV (kc' := 0) (ks' := 0) (As := [.ref 40]) (st9 := [.ref 40, .ref o0]) d_TrustDeskModel_both_15 lV_TrustDeskModel_244 b30 rfl (tc_TrustDeskModel_isWord_s1_40_x (d := (d + 6)) (x9 := x9) (o0 := o0) h_q0_16 kKR_16 I_16.start) rfl (Nat.le_of_ble_eq_true rfl) (Nat.le_of_ble_eq_true rfl) (Nat.le_of_ble_eq_true rfl) (hst := rfl) (fun b24r M25 n26 b24 => ?_)
        obtain ⟨T27, J28, v31, rfl, b32, b33, R34, f35, f36, f37⟩ := b24
        have I29 := I_16.call J28 (tm_sub (by decide)) (Or.inl rfl)
        have t38 := J28.up h_q0_16
        replace f36 := Im.i f36
        replace f37 := Im.i f37
        have z39 := (rv_c I_16 J28 (I_16.up h_o0) (k := 16) rfl)
        have z40 := (rv_c I_16 J28 (I_16.up h_o0) (k := 17) rfl)
        have z41 := (rv_c I_16 J28 (I_16.up h_o0) (k := 19) rfl)
        have z42 := (rv_c I_16 J28 (I_16.up h_o0) (k := 22) rfl)
        have E43 : rE M0 M25 o0 1 0 := kKE_16.same (rE_hv I_16 J28 (I_16.up h_o0) 15 19 (by decide)) (rE_ha I_16 J28 (I_16.up h_o0) (by decide))
        have Z944 : pO M25 o0 pb pn pa s17 := Z918.same (rE_hv I_16 J28 (I_16.up h_o0) 14 20 (by decide)) (rv_c I_16 J28 (I_16.up h_o0) (k := 23) rfl) (ra_call I_16 J28 (I_16.up h_o0) (k := 13) rfl rfl rfl)
        have d45 := Im.i (pO.w_31 Z918 (by have := kKR_16.1 15 _ _ rfl; have := kKR_16.1 16 _ _ rfl; have := kKR_16.1 19 _ _ rfl; have := kKE_16.f yS; omega) (Im.o f36) (Im.o f37) (by have := kKR_16.1 15 _ _ rfl; have := kKR_16.1 16 _ _ rfl; have := kKR_16.1 19 _ _ rfl; have := kKE_16.f yS; omega))
        have q46 := J28.keep h_q0_16 (by decide) q21
        have := mz_hi v31
        refine mv_if_eqZ (tgt := 38) (a := v31.toInt) d_TrustDeskModel_both_18 (by decide) rfl (fun b47 => ?_) (fun b47 => ?_)
        · exact mv_vret d_TrustDeskModel_both_38 rfl ⟨_, I29, rfl, R34, E43, (by have := R34.1 15 _ _ rfl; have := R34.1 16 _ _ rfl; have := R34.1 19 _ _ rfl; have := E43.f yS; omega), (by first | (have := pW0 (Im.o d45) (by omega); have := Z944.wk; have hX := e19.symm.trans (p_lp_stop (show (p_bo1 pb pn pa 0 (p_oc pb pn pa 0)) s17 = s17 from if_neg (fun h9 => by omega))); rw [show p_bot pb pn pa 0 (p_oc pb pn pa 0) ps = s17 from (by exact hX)]; exact Z944) | (exfalso; have := R34.1 15 _ _ rfl; have := R34.1 16 _ _ rfl; have := R34.1 19 _ _ rfl; have := E43.f yS; omega))⟩
        · refine mv_aload_n d_TrustDeskModel_both_21 rfl rfl ?_
          obtain ⟨_, b54, -⟩ := I29.1 _ _ t38
          refine mv_callV (kc' := 0) (ks' := 0) (As := []) (st9 := [.ref o0]) d_TrustDeskModel_both_22 lV_TrustDeskModel_237 b54 rfl (tc_TrustDeskModel_next_x (d := (d + 9)) (x9 := x9) (o0 := o0) t38 R34 Z944.p I29.start) rfl (Nat.le_of_ble_eq_true rfl) (Nat.le_of_ble_eq_true rfl) (Nat.le_of_ble_eq_true rfl) (hst := rfl) (fun b48r M49 n50 b48 => ?_)
          obtain ⟨T51, J52, rfl, R55, f56, f57, f58⟩ := b48
          have I53 := I29.call J52 (tm_sub (by decide)) (Or.inl rfl)
          have t59 := J52.up t38
          have z60 := (rv_c I29 J52 (I29.up h_o0) (k := 19) rfl).trans z41
          have z61 := (rv_c I29 J52 (I29.up h_o0) (k := 22) rfl).trans z42
          have h63 : rv M25 o0 16 + 1 ≤ rv M25 o0 15 := (by have := R34.1 15 _ _ rfl; have := R34.1 16 _ _ rfl; have := R34.1 19 _ _ rfl; have := E43.f yS; omega)
          have E62 : rE M0 M49 o0 1 1 := E43.next f56 f57 (rv_c I29 J52 (I29.up h_o0) (k := 19) rfl) (rE_ha I29 J52 (I29.up h_o0) (by decide)) (e := 1) h63 (by decide)
          obtain ⟨s64, e65⟩ : ∃ s9 : p_S, p_nx s17 = s9 := ⟨_, rfl⟩
          rw [e65] at f58
          have := f58.w
          clear z41 z42
          have q66 := J52.keep t38 (by decide) q46
          refine mv_aload_n d_TrustDeskModel_both_25 rfl rfl ?_
          obtain ⟨_, b73, -⟩ := I53.1 _ _ t59
          refine mv_callV (kc' := 0) (ks' := 0) (As := []) (st9 := [.ref o0]) d_TrustDeskModel_both_26 lV_TrustDeskModel_308 b73 rfl (tc_TrustDeskModel_part_0_q1_x (d := d) (x9 := x9) (o0 := o0) t59 R55 E62.1 (by have := R55.1 15 _ _ rfl; have := R55.1 16 _ _ rfl; have := R55.1 19 _ _ rfl; have := E62.f yS; omega) (by have := R55.1 15 _ _ rfl; have := R55.1 16 _ _ rfl; have := R55.1 19 _ _ rfl; have := E62.f yS; omega) f58 I53.start) rfl (Nat.le_of_ble_eq_true rfl) (Nat.le_of_ble_eq_true rfl) (Nat.le_of_ble_eq_true rfl) (hst := rfl) (fun b67r M68 n69 b67 => ?_)
          obtain ⟨T70, J71, rfl, R74, f75, f76, f77⟩ := b67
          have I72 := I53.call J71 (tm_sub (by decide)) (Or.inl rfl)
          have t78 := J71.up t59
          have E79 : rE M0 M68 o0 2 1 := E62.trans f75 (by decide) (yR.2 5 _ _ rfl 44).1 (by decide) (by decide)
          have := f75.w
          obtain ⟨s80, e81⟩ : ∃ s9 : p_S, p_ter pb pn pa 0 (p_oc pb pn pa 0) s64 = s9 := ⟨_, rfl⟩
          rw [e81] at f77
          have := f77.w
          refine mv_aload_n d_TrustDeskModel_both_29 rfl rfl ?_
          refine mv_bipush (v := (-7)) d_TrustDeskModel_both_30 (by decide) ?_
          obtain ⟨_, b88, -⟩ := I72.1 _ _ t78
          have : ((-7) : Int32).toInt = (-7) := by decide
          refine mv_callV (kc' := 0) (ks' := 0) (As := [.int (-7)]) (st9 := [.int (-7), .ref o0]) d_TrustDeskModel_both_32 lV_TrustDeskModel_279 b88 rfl (tc_TrustDeskModel_emits_x (d := (d + 9)) (x9 := x9) (o0 := o0) (x1 := (-7)) t78 R74 (by have := R74.1 15 _ _ rfl; have := R74.1 16 _ _ rfl; have := R74.1 19 _ _ rfl; have := E79.f yS; omega) (by decide) I72.start) rfl (Nat.le_of_ble_eq_true rfl) (Nat.le_of_ble_eq_true rfl) (Nat.le_of_ble_eq_true rfl) (hst := rfl) (fun b82r M83 n84 b82 => ?_)
          obtain ⟨T85, J86, rfl, R89, f90⟩ := b82
          have I87 := I72.call J86 (tm_sub (by decide)) (Or.inl rfl)
          have t91 := J86.up t78
          have z92 := (rv_c I72 J86 (I72.up h_o0) (k := 16) rfl)
          have z93 := (rv_c I72 J86 (I72.up h_o0) (k := 17) rfl)
          have z94 := (rv_c I72 J86 (I72.up h_o0) (k := 19) rfl)
          have z95 := (rv_c I72 J86 (I72.up h_o0) (k := 22) rfl)
          have E96 : rE M0 M83 o0 1 0 := E79.emit f90 (rE_hv I72 J86 (I72.up h_o0) 15 19 (by decide)) (yR.2 5 _ _ rfl 44).1 (by decide) (Or.inr (Or.inr ⟨by decide, by decide, by decide, by decide⟩)) (by decide)
          have Z997 : pO M83 o0 pb pn pa s80 := f77.same (rE_hv I72 J86 (I72.up h_o0) 14 20 (by decide)) (rv_c I72 J86 (I72.up h_o0) (k := 23) rfl) (ra_call I72 J86 (I72.up h_o0) (k := 13) rfl rfl rfl)
          refine mv_goto (tgt := 4) d_TrustDeskModel_both_35 (by decide) ?_
          have T98 : ∃ s1 : p_S, pO M83 o0 pb pn pa s1 ∧ p_lp pn (p_bo1 pb pn pa 0 (p_oc pb pn pa 0)) s1 = p_bot pb pn pa 0 (p_oc pb pn pa 0) ps := ⟨s80, Z997, (by have st : (p_bo1 pb pn pa 0 (p_oc pb pn pa 0)) s17 = s80 := (by have := pW1 (Im.o d45) (by omega); have := Z944.wk; rw [show (p_bo1 pb pn pa 0 (p_oc pb pn pa 0)) s17 = p_ter pb pn pa 0 (p_oc pb pn pa 0) (p_nx s17) from if_pos ⟨by omega, by omega⟩]; simp only [e65, e81]); rw [← st, p_P.go (p_bo1_P (p_oc_M _)) s17]; exact e19)⟩
          exact (ih16 T85 M83 n84 I87 t91 (by have := R89.1 15 _ _ rfl; have := R89.1 16 _ _ rfl; have := R89.1 19 _ _ rfl; have := E96.f yS; first | omega | decide | exact fun h9 => absurd (by decide) h9) R89 E96 T98 (by have := R89.1 15 _ _ rfl; have := R89.1 16 _ _ rfl; have := R89.1 19 _ _ rfl; have := E96.f yS; omega))
  have T99 : ∃ s1 : p_S, pO M2 o0 pb pn pa s1 ∧ p_lp pn (p_bo1 pb pn pa 0 (p_oc pb pn pa 0)) s1 = p_bot pb pn pa 0 (p_oc pb pn pa 0) ps := ⟨s14, f11, (by rw [← e15]; rfl)⟩
  exact mv_less (Nat.zero_le _) (Nat.zero_le _) (L4_16 4294967296 T4 M2 n3 I6 t12 (by have := R8.1 15 _ _ rfl; have := R8.1 16 _ _ rfl; have := R8.1 19 _ _ rfl; have := E13.f yS; first | omega | decide | exact fun h9 => absurd (by decide) h9) R8 E13 T99 (by have := R8.1 15 _ _ rfl; have := R8.1 16 _ _ rfl; have := R8.1 19 _ _ rfl; have := E13.f yS; omega))
theorem d_TrustDeskModel_cond_11 : decode kY_TrustDeskModel_cond.2.1 11 = .ok (.aload_n 0, 1) := by decide +kernel
theorem d_TrustDeskModel_cond_12 : decode kY_TrustDeskModel_cond.2.1 12 = .ok (.ldc_w 315, 3) := by decide +kernel
theorem d_TrustDeskModel_cond_15 : decode kY_TrustDeskModel_cond.2.1 15 = .ok (.invokevirtual 244, 3) := by decide +kernel
def w_TrustDeskModel_isWord_s1_41_x : List Nat := []
set_option maxHeartbeats 100000000 in theorem tc_TrustDeskModel_isWord_s1_41_x {g : mj_G} {l : Launch} {d : Nat} {T0 : tm_H} {M0 : mj_M} {n0 x9 : Nat} {o0 : Nat} (h_o0 : T0 o0 = some (0, 13, 0)) (yR : rI M0 o0) (I0 : tm_I tm_FT (tm_in w_TrustDeskModel_isWord_s1_41_x) x9 T0 M0 n0 T0 M0 n0) : mj_Met g l kY_TrustDeskModel_isWord (d + 4) [.ref o0, .ref 41] M0 n0 0 0 (tm_Q tm_FT (tm_in w_TrustDeskModel_isWord_s1_41_x) x9 T0 M0 n0 (fun r _ M => ∃ v : Int32, r = some (.int v) ∧ 0 ≤ v.toInt ∧ v.toInt ≤ 1 ∧ rI M o0 ∧ (v.toInt = 1 → rv M0 o0 17 = 3) ∧ (v.toInt = 1 → rv M0 o0 17 = 3 ∧ rv M0 o0 15 - rv M0 o0 16 = 2 ∧ ra M0 o0 13 ((rv M0 o0 16).toNat + 0) = 111 ∧ ra M0 o0 13 ((rv M0 o0 16).toNat + 1) = 114) ∧ (v.toInt = 0 → ¬ (rv M0 o0 17 = 3 ∧ rv M0 o0 15 - rv M0 o0 16 = 2 ∧ ra M0 o0 13 ((rv M0 o0 16).toNat + 0) = 111 ∧ ra M0 o0 13 ((rv M0 o0 16).toNat + 1) = 114)))) := by
  refine mj_enter (by decide) (Nat.le_of_ble_eq_true rfl) ?_
  refine mv_aload_n d_TrustDeskModel_isWord_0 rfl rfl ?_
  obtain ⟨v2, q1⟩ := tm_atI I0 h_o0 (k := 17) rfl
  refine tr_getK q1 d_TrustDeskModel_isWord_1 f_TrustDeskModel_198_13 ?_
  have := tm_rv q1
  refine mv_iconst (v := 3) d_TrustDeskModel_isWord_4 (by decide) ?_
  have := mz_hi v2
  refine mv_icmp_neZ (tgt := 24) (a := v2.toInt) (b := 3) d_TrustDeskModel_isWord_5 (by decide) rfl (by decide) (fun b3 => ?_) (fun b3 => ?_)
  · refine mv_iconst (v := 0) d_TrustDeskModel_isWord_24 (by decide) ?_
    exact mv_iret d_TrustDeskModel_isWord_25 rfl (by decide) ⟨_, I0, _, rfl, by decide, by decide, yR, (fun h => absurd h (by decide)), (fun h => absurd h (by decide)), (fun _ h => by obtain ⟨h1, h2, h3, h4⟩ := h; have := yR.1 15 _ _ rfl; have := yR.1 16 _ _ rfl; have := yR.1 19 _ _ rfl; omega)⟩
  · refine mv_aload_n d_TrustDeskModel_isWord_8 rfl rfl ?_
    obtain ⟨v5, q4⟩ := tm_atI I0 h_o0 (k := 15) rfl
    refine tr_getK q4 d_TrustDeskModel_isWord_9 f_TrustDeskModel_192_13 ?_
    have := yR.f (k := 15) q4 rfl
    have := tm_rv q4
    refine mv_aload_n d_TrustDeskModel_isWord_12 rfl rfl ?_
    obtain ⟨v7, q6⟩ := tm_atI I0 h_o0 (k := 16) rfl
    refine tr_getK q6 d_TrustDeskModel_isWord_13 f_TrustDeskModel_195_13 ?_
    have := yR.f (k := 16) q6 rfl
    have := tm_rv q6
    refine mv_isub d_TrustDeskModel_isWord_16 ?_
    refine mv_aload_n d_TrustDeskModel_isWord_17 rfl rfl ?_
    refine mv_slenK (i := 31) (v := 2) d_TrustDeskModel_isWord_18 lV_TrustDeskModel_214 (by decide) rfl (by decide) (Nat.le_of_ble_eq_true rfl) ?_
    have b8 : (v5 - v7 : Int32).toInt = (v5.toInt - v7.toInt) := mz_sub2 rfl rfl (by have := yR.1 15 _ _ rfl; have := yR.1 16 _ _ rfl; have := yR.1 19 _ _ rfl; omega) (by have := yR.1 15 _ _ rfl; have := yR.1 16 _ _ rfl; have := yR.1 19 _ _ rfl; omega)
    have := mz_hi (v5 - v7)
    refine mv_icmp_eqZ (tgt := 26) (a := (v5 - v7).toInt) (b := 2) d_TrustDeskModel_isWord_21 (by decide) rfl (by decide) (fun b9 => ?_) (fun b9 => ?_)
    · refine mv_iconst (v := 0) d_TrustDeskModel_isWord_26 (by decide) ?_
      refine mv_istore_n (lv' := [(2, .int 0), (0, .ref o0), (1, .ref 41)]) d_TrustDeskModel_isWord_27 rfl (by decide) rfl ?_
      refine mv_iload_n d_TrustDeskModel_isWord_28 rfl rfl ?_
      refine mv_aload_n d_TrustDeskModel_isWord_29 rfl rfl ?_
      refine mv_slenK (i := 31) (v := 2) d_TrustDeskModel_isWord_30 lV_TrustDeskModel_214 (by decide) rfl (by decide) (Nat.le_of_ble_eq_true rfl) ?_
      refine mv_icmp_ge_f (tgt := 63) d_TrustDeskModel_isWord_33 (by decide) (by decide) ?_
      refine mv_aload_n d_TrustDeskModel_isWord_36 rfl rfl ?_
      obtain ⟨a11, q10, t_a11⟩ := tm_atR I0 h_o0 (k := 13) rfl
      refine tr_getK q10 d_TrustDeskModel_isWord_37 f_TrustDeskModel_44_13 ?_
      refine mv_aload_n d_TrustDeskModel_isWord_40 rfl rfl ?_
      refine tr_getK (k := 16) q6 d_TrustDeskModel_isWord_41 f_TrustDeskModel_195_13 ?_
      refine mv_iload_n d_TrustDeskModel_isWord_44 rfl rfl ?_
      refine mv_iadd d_TrustDeskModel_isWord_45 ?_
      have b12 : (v7 + 0 : Int32).toInt = (v7.toInt + 0) := mz_add2 rfl (by decide) (by have := yR.1 15 _ _ rfl; have := yR.1 16 _ _ rfl; have := yR.1 19 _ _ rfl; omega) (by have := yR.1 15 _ _ rfl; have := yR.1 16 _ _ rfl; have := yR.1 19 _ _ rfl; omega)
      refine tr_baldR (o := o0) (k := 13) I0 q10 t_a11 (by decide) d_TrustDeskModel_isWord_46 (vp_in_iff.mpr (by have := yR.1 15 _ _ rfl; have := yR.1 16 _ _ rfl; have := yR.1 19 _ _ rfl; omega)) (fun v13 e14 => ?_)
      have := yR.a (k := 13) rfl ((v7 + 0) : Int32).toNatClampNeg
      have h15 : (v7 + 0).toNatClampNeg = (rv M0 o0 16).toNat + 0 := by have := mz_nat9 (i := (v7 + 0)) (by have := yR.1 15 _ _ rfl; have := yR.1 16 _ _ rfl; have := yR.1 19 _ _ rfl; omega); have := yR.1 15 _ _ rfl; have := yR.1 16 _ _ rfl; have := yR.1 19 _ _ rfl; omega
      have : v13.toInt = ra M0 o0 13 ((rv M0 o0 16).toNat + 0) := by rw [e14, h15]
      refine mv_aload_n d_TrustDeskModel_isWord_47 rfl rfl ?_
      refine mv_iload_n d_TrustDeskModel_isWord_48 rfl rfl ?_
      refine mv_schC (i := 31) (v := 111) d_TrustDeskModel_isWord_49 lV_TrustDeskModel_220 (by decide) rfl (by decide) (by decide) (Nat.le_of_ble_eq_true rfl) (by decide) ?_
      have := mz_hi v13
      refine mv_icmp_eqZ (tgt := 57) (a := v13.toInt) (b := 111) d_TrustDeskModel_isWord_52 (by decide) rfl (by decide) (fun b16 => ?_) (fun b16 => ?_)
      · refine mv_iinc (v := 1) (lv' := [(2, .int 1), (0, .ref o0), (1, .ref 41)]) d_TrustDeskModel_isWord_57 rfl (by decide) (by decide) rfl ?_
        refine mv_goto (tgt := 28) d_TrustDeskModel_isWord_60 (by decide) ?_
        refine mv_iload_n d_TrustDeskModel_isWord_28 rfl rfl ?_
        refine mv_aload_n d_TrustDeskModel_isWord_29 rfl rfl ?_
        refine mv_slenK (i := 31) (v := 2) d_TrustDeskModel_isWord_30 lV_TrustDeskModel_214 (by decide) rfl (by decide) (Nat.le_of_ble_eq_true rfl) ?_
        refine mv_icmp_ge_f (tgt := 63) d_TrustDeskModel_isWord_33 (by decide) (by decide) ?_
        refine mv_aload_n d_TrustDeskModel_isWord_36 rfl rfl ?_
        refine tr_getK (k := 13) q10 d_TrustDeskModel_isWord_37 f_TrustDeskModel_44_13 ?_
        refine mv_aload_n d_TrustDeskModel_isWord_40 rfl rfl ?_
        refine tr_getK (k := 16) q6 d_TrustDeskModel_isWord_41 f_TrustDeskModel_195_13 ?_
        refine mv_iload_n d_TrustDeskModel_isWord_44 rfl rfl ?_
        refine mv_iadd d_TrustDeskModel_isWord_45 ?_
        have b17 : (v7 + 1 : Int32).toInt = (v7.toInt + 1) := mz_add2 rfl (by decide) (by have := yR.1 15 _ _ rfl; have := yR.1 16 _ _ rfl; have := yR.1 19 _ _ rfl; omega) (by have := yR.1 15 _ _ rfl; have := yR.1 16 _ _ rfl; have := yR.1 19 _ _ rfl; omega)
        refine tr_baldR (o := o0) (k := 13) I0 q10 t_a11 (by decide) d_TrustDeskModel_isWord_46 (vp_in_iff.mpr (by have := yR.1 15 _ _ rfl; have := yR.1 16 _ _ rfl; have := yR.1 19 _ _ rfl; omega)) (fun v18 e19 => ?_)
        have := yR.a (k := 13) rfl ((v7 + 1) : Int32).toNatClampNeg
        have h20 : (v7 + 1).toNatClampNeg = (rv M0 o0 16).toNat + 1 := by have := mz_nat9 (i := (v7 + 1)) (by have := yR.1 15 _ _ rfl; have := yR.1 16 _ _ rfl; have := yR.1 19 _ _ rfl; omega); have := yR.1 15 _ _ rfl; have := yR.1 16 _ _ rfl; have := yR.1 19 _ _ rfl; omega
        have : v18.toInt = ra M0 o0 13 ((rv M0 o0 16).toNat + 1) := by rw [e19, h20]
        refine mv_aload_n d_TrustDeskModel_isWord_47 rfl rfl ?_
        refine mv_iload_n d_TrustDeskModel_isWord_48 rfl rfl ?_
        refine mv_schC (i := 31) (v := 114) d_TrustDeskModel_isWord_49 lV_TrustDeskModel_220 (by decide) rfl (by decide) (by decide) (Nat.le_of_ble_eq_true rfl) (by decide) ?_
        have := mz_hi v18
        refine mv_icmp_eqZ (tgt := 57) (a := v18.toInt) (b := 114) d_TrustDeskModel_isWord_52 (by decide) rfl (by decide) (fun b21 => ?_) (fun b21 => ?_)
        · refine mv_iinc (v := 2) (lv' := [(2, .int 2), (0, .ref o0), (1, .ref 41)]) d_TrustDeskModel_isWord_57 rfl (by decide) (by decide) rfl ?_
          refine mv_goto (tgt := 28) d_TrustDeskModel_isWord_60 (by decide) ?_
          refine mv_iload_n d_TrustDeskModel_isWord_28 rfl rfl ?_
          refine mv_aload_n d_TrustDeskModel_isWord_29 rfl rfl ?_
          refine mv_slenK (i := 31) (v := 2) d_TrustDeskModel_isWord_30 lV_TrustDeskModel_214 (by decide) rfl (by decide) (Nat.le_of_ble_eq_true rfl) ?_
          refine mv_icmp_ge_t (tgt := 63) d_TrustDeskModel_isWord_33 (by decide) (by decide) ?_
          refine mv_iconst (v := 1) d_TrustDeskModel_isWord_63 (by decide) ?_
          exact mv_iret d_TrustDeskModel_isWord_64 rfl (by decide) ⟨_, I0, _, rfl, by decide, by decide, yR, (fun _ => by have := yR.1 15 _ _ rfl; have := yR.1 16 _ _ rfl; have := yR.1 19 _ _ rfl; omega), (fun _ => ⟨by have := yR.1 15 _ _ rfl; have := yR.1 16 _ _ rfl; have := yR.1 19 _ _ rfl; omega, by have := yR.1 15 _ _ rfl; have := yR.1 16 _ _ rfl; have := yR.1 19 _ _ rfl; omega, by have := yR.1 15 _ _ rfl; have := yR.1 16 _ _ rfl; have := yR.1 19 _ _ rfl; omega, by have := yR.1 15 _ _ rfl; have := yR.1 16 _ _ rfl; have := yR.1 19 _ _ rfl; omega⟩), (fun h => absurd h (by decide))⟩
        · refine mv_iconst (v := 0) d_TrustDeskModel_isWord_55 (by decide) ?_
          exact mv_iret d_TrustDeskModel_isWord_56 rfl (by decide) ⟨_, I0, _, rfl, by decide, by decide, yR, (fun h => absurd h (by decide)), (fun h => absurd h (by decide)), (fun _ h => by obtain ⟨h1, h2, h3, h4⟩ := h; have := yR.1 15 _ _ rfl; have := yR.1 16 _ _ rfl; have := yR.1 19 _ _ rfl; omega)⟩
      · refine mv_iconst (v := 0) d_TrustDeskModel_isWord_55 (by decide) ?_
        exact mv_iret d_TrustDeskModel_isWord_56 rfl (by decide) ⟨_, I0, _, rfl, by decide, by decide, yR, (fun h => absurd h (by decide)), (fun h => absurd h (by decide)), (fun _ h => by obtain ⟨h1, h2, h3, h4⟩ := h; have := yR.1 15 _ _ rfl; have := yR.1 16 _ _ rfl; have := yR.1 19 _ _ rfl; omega)⟩
    · refine mv_iconst (v := 0) d_TrustDeskModel_isWord_24 (by decide) ?_
      exact mv_iret d_TrustDeskModel_isWord_25 rfl (by decide) ⟨_, I0, _, rfl, by decide, by decide, yR, (fun h => absurd h (by decide)), (fun h => absurd h (by decide)), (fun _ h => by obtain ⟨h1, h2, h3, h4⟩ := h; have := yR.1 15 _ _ rfl; have := yR.1 16 _ _ rfl; have := yR.1 19 _ _ rfl; omega)⟩
theorem d_TrustDeskModel_cond_18 : decode kY_TrustDeskModel_cond.2.1 18 = .ok (.ifCond .eq 20, 3) := by decide +kernel
theorem d_TrustDeskModel_cond_21 : decode kY_TrustDeskModel_cond.2.1 21 = .ok (.aload_n 0, 1) := by decide +kernel
theorem d_TrustDeskModel_cond_22 : decode kY_TrustDeskModel_cond.2.1 22 = .ok (.invokevirtual 237, 3) := by decide +kernel
theorem d_TrustDeskModel_cond_25 : decode kY_TrustDeskModel_cond.2.1 25 = .ok (.aload_n 0, 1) := by decide +kernel
theorem d_TrustDeskModel_cond_26 : decode kY_TrustDeskModel_cond.2.1 26 = .ok (.invokevirtual 312, 3) := by decide +kernel
theorem d_TrustDeskModel_cond_29 : decode kY_TrustDeskModel_cond.2.1 29 = .ok (.aload_n 0, 1) := by decide +kernel
theorem d_TrustDeskModel_cond_30 : decode kY_TrustDeskModel_cond.2.1 30 = .ok (.bipush (-8), 2) := by decide +kernel
theorem d_TrustDeskModel_cond_32 : decode kY_TrustDeskModel_cond.2.1 32 = .ok (.invokevirtual 279, 3) := by decide +kernel
theorem d_TrustDeskModel_cond_35 : decode kY_TrustDeskModel_cond.2.1 35 = .ok (.goto (-31), 3) := by decide +kernel
def w_TrustDeskModel_cond_q1_x : List Nat := [1315, 1316, 1317, 1318, 1319, 1320, 1322, 20004, 20005]
set_option maxHeartbeats 100000000 in theorem tc_TrustDeskModel_cond_q1_x {g : mj_G} {l : Launch} {d : Nat} {T0 : tm_H} {M0 : mj_M} {n0 x9 : Nat} {o0 : Nat} (h_o0 : T0 o0 = some (0, 13, 0)) (yR : rI M0 o0) (yT : rT M0 o0) (yS : rv M0 o0 19 = 0 → ra M0 o0 5 44 ≤ rv M0 o0 16) (yL : rv M0 o0 19 ≠ 0 ∨ (4 ≤ rv M0 o0 22 ∧ rv M0 o0 22 ≤ 4)) {pb : Nat → Int} {pn : Nat} {pa : Int} {ps : p_S} (yO : pO M0 o0 pb pn pa ps) (I0 : tm_I tm_FT (tm_in w_TrustDeskModel_cond_q1_x) x9 T0 M0 n0 T0 M0 n0) : mj_Met g l kY_TrustDeskModel_cond (d + 12) [.ref o0] M0 n0 0 0 (tm_Q tm_FT (tm_in w_TrustDeskModel_cond_q1_x) x9 T0 M0 n0 (fun r _ M => r = none ∧ rI M o0 ∧ (rE M0 M o0 1 0) ∧ (rv M o0 19 = 0 → rv M o0 22 = rv M0 o0 22) ∧ (pO M o0 pb pn pa (p_con pb pn pa 0 (p_oc pb pn pa 0) ps)))) := by
  refine mj_enter (by decide) (Nat.le_of_ble_eq_true rfl) ?_
  have yE0 := rE.rf yT
  have := yO.w
  refine mv_aload_n d_TrustDeskModel_cond_0 rfl rfl ?_
  obtain ⟨_, b7, -⟩ := I0.1 _ _ h_o0
  refine mv_callV (kc' := 0) (ks' := 0) (As := []) (st9 := [.ref o0]) d_TrustDeskModel_cond_1 lV_TrustDeskModel_312 b7 rfl (tc_TrustDeskModel_both_q1_x (d := d) (x9 := x9) (o0 := o0) h_o0 yR yE0.1 (by have := yR.1 15 _ _ rfl; have := yR.1 16 _ _ rfl; have := yR.1 19 _ _ rfl; have := yE0.f yS; omega) (by have := yR.1 15 _ _ rfl; have := yR.1 16 _ _ rfl; have := yR.1 19 _ _ rfl; have := yE0.f yS; omega) yO I0.start) rfl (Nat.le_of_ble_eq_true rfl) (Nat.le_of_ble_eq_true rfl) (Nat.le_of_ble_eq_true rfl) (hst := rfl) (fun b1r M2 n3 b1 => ?_)
  obtain ⟨T4, J5, rfl, R8, f9, f10, f11⟩ := b1
  have I6 := I0.call J5 (tm_sub (by decide)) (Or.inl rfl)
  have t12 := J5.up h_o0
  have E13 : rE M0 M2 o0 1 0 := yE0.trans f9 (by decide) (yR.2 5 _ _ rfl 44).1 (by decide) (by decide)
  have := f9.w
  obtain ⟨s14, e15⟩ : ∃ s9 : p_S, p_bot pb pn pa 0 (p_oc pb pn pa 0) ps = s9 := ⟨_, rfl⟩
  rw [e15] at f11
  have := f11.w
  have L4_16 : ∀ (k : Nat) (T_16 : tm_H) (M_16 : mj_M) (n_16 : Nat), tm_I tm_FT (tm_in w_TrustDeskModel_cond_q1_x) x9 T0 M0 n0 T_16 M_16 n_16 → T_16 o0 = some (0, 13, 0) → (rv M_16 o0 19 = 0 → rv M_16 o0 22 = rv M0 o0 22) → (rI M_16 o0) → (rE M0 M_16 o0 1 0) → (∃ s1 : p_S, pO M_16 o0 pb pn pa s1 ∧ p_lp pn (p_co1 pb pn pa 0 (p_oc pb pn pa 0)) s1 = p_con pb pn pa 0 (p_oc pb pn pa 0) ps) → 5 * (401 - rv M_16 o0 16) - rv M_16 o0 19 < (k : Int) → mj_V g l kY_TrustDeskModel_cond (d + 12) 4 [(0, .ref o0)] [] M_16 n_16 0 0 (tm_Q tm_FT (tm_in w_TrustDeskModel_cond_q1_x) x9 T0 M0 n0 (fun r _ M => r = none ∧ rI M o0 ∧ (rE M0 M o0 1 0) ∧ (rv M o0 19 = 0 → rv M o0 22 = rv M0 o0 22) ∧ (pO M o0 pb pn pa (p_con pb pn pa 0 (p_oc pb pn pa 0) ps)))) := by
    intro k16
    induction k16 with
    | zero =>
      intro T_16 M_16 n_16 I_16 h_q0_16 iv0_16 kKR_16 kKE_16 kKT9_16 hk16
      have := kKR_16.1 15 _ _ rfl
      have := kKR_16.1 16 _ _ rfl
      have := kKR_16.1 19 _ _ rfl
      exfalso; omega
    | succ k16 ih16 =>
      intro T_16 M_16 n_16 I_16 h_q0_16 iv0_16 kKR_16 kKE_16 kKT9_16 hk16
      have := kKE_16.f yS
      obtain ⟨s17, Z918, e19⟩ := kKT9_16
      have := Z918.w
      refine mv_aload_n d_TrustDeskModel_cond_4 rfl rfl ?_
      obtain ⟨_, b20, -⟩ := I_16.1 _ _ h_q0_16
      refine mv_callV (kc1 := 0) (ks1 := 0) (kc' := 0) (ks' := 0) (As := []) (st9 := [.ref o0]) d_TrustDeskModel_cond_5 lV_TrustDeskModel_230 b20 rfl (mj_enter (by decide) (Nat.le_of_ble_eq_true rfl) ?_) rfl (Nat.le_of_ble_eq_true rfl) (Nat.le_of_ble_eq_true rfl) (Nat.le_of_ble_eq_true rfl) (hst := rfl) (fun _ _ _ h => h)
      refine mv_aload_n d_TrustDeskModel_isWell_0 rfl rfl ?_
      obtain ⟨v22, q21⟩ := tm_atI I_16 h_q0_16 (k := 19) rfl
      refine tr_getK q21 d_TrustDeskModel_isWell_1 f_TrustDeskModel_224_13 ?_
      have := kKR_16.f (k := 19) q21 rfl
      have := tm_rv q21
      have := mz_hi v22
      refine mv_if_neZ (tgt := 11) (a := v22.toInt) d_TrustDeskModel_isWell_4 (by decide) rfl (fun b23 => ?_) (fun b23 => ?_)
      · refine mv_iconst (v := 0) d_TrustDeskModel_isWell_11 (by decide) ?_
        refine mv_iret d_TrustDeskModel_isWell_12 rfl (by decide) ?_
        refine mv_if_eq_t (tgt := 38) d_TrustDeskModel_cond_8 (by decide) (by decide) ?_
        exact mv_vret d_TrustDeskModel_cond_38 rfl ⟨_, I_16, rfl, kKR_16, kKE_16, (by have := kKR_16.1 15 _ _ rfl; have := kKR_16.1 16 _ _ rfl; have := kKR_16.1 19 _ _ rfl; have := kKE_16.f yS; omega), (by first | (have hX := e19.symm.trans (p_lp_stop (show (p_co1 pb pn pa 0 (p_oc pb pn pa 0)) s17 = s17 from if_neg (fun h9 => by omega))); rw [show p_con pb pn pa 0 (p_oc pb pn pa 0) ps = s17 from (by exact hX)]; exact Z918) | (exfalso; have := kKR_16.1 15 _ _ rfl; have := kKR_16.1 16 _ _ rfl; have := kKR_16.1 19 _ _ rfl; have := kKE_16.f yS; omega))⟩
      · refine mv_iconst (v := 1) d_TrustDeskModel_isWell_7 (by decide) ?_
        refine mv_goto (tgt := 12) d_TrustDeskModel_isWell_8 (by decide) ?_
        refine mv_iret d_TrustDeskModel_isWell_12 rfl (by decide) ?_
        refine mv_if_eq_f (tgt := 38) d_TrustDeskModel_cond_8 (by decide) (by decide) ?_
        refine mv_aload_n d_TrustDeskModel_cond_11 rfl rfl ?_
        refine mv_ldcSw (id := 41) (tx := "or") d_TrustDeskModel_cond_12 (List.mem_of_getElem? (i := 31) rfl) ?_
        obtain ⟨_, b30, -⟩ := I_16.1 _ _ h_q0_16
        refine mv_callV (kc' := 0) (ks' := 0) (As := [.ref 41]) (st9 := [.ref 41, .ref o0]) d_TrustDeskModel_cond_15 lV_TrustDeskModel_244 b30 rfl (tc_TrustDeskModel_isWord_s1_41_x (d := (d + 7)) (x9 := x9) (o0 := o0) h_q0_16 kKR_16 I_16.start) rfl (Nat.le_of_ble_eq_true rfl) (Nat.le_of_ble_eq_true rfl) (Nat.le_of_ble_eq_true rfl) (hst := rfl) (fun b24r M25 n26 b24 => ?_)
        obtain ⟨T27, J28, v31, rfl, b32, b33, R34, f35, f36, f37⟩ := b24
        have I29 := I_16.call J28 (tm_sub (by decide)) (Or.inl rfl)
        have t38 := J28.up h_q0_16
        replace f36 := Im.i f36
        replace f37 := Im.i f37
        have z39 := (rv_c I_16 J28 (I_16.up h_o0) (k := 16) rfl)
        have z40 := (rv_c I_16 J28 (I_16.up h_o0) (k := 17) rfl)
        have z41 := (rv_c I_16 J28 (I_16.up h_o0) (k := 19) rfl)
        have z42 := (rv_c I_16 J28 (I_16.up h_o0) (k := 22) rfl)
        have E43 : rE M0 M25 o0 1 0 := kKE_16.same (rE_hv I_16 J28 (I_16.up h_o0) 15 19 (by decide)) (rE_ha I_16 J28 (I_16.up h_o0) (by decide))
        have Z944 : pO M25 o0 pb pn pa s17 := Z918.same (rE_hv I_16 J28 (I_16.up h_o0) 14 20 (by decide)) (rv_c I_16 J28 (I_16.up h_o0) (k := 23) rfl) (ra_call I_16 J28 (I_16.up h_o0) (k := 13) rfl rfl rfl)
        have d45 := Im.i (pO.w_32 Z918 (by have := kKR_16.1 15 _ _ rfl; have := kKR_16.1 16 _ _ rfl; have := kKR_16.1 19 _ _ rfl; have := kKE_16.f yS; omega) (Im.o f36) (Im.o f37) (by have := kKR_16.1 15 _ _ rfl; have := kKR_16.1 16 _ _ rfl; have := kKR_16.1 19 _ _ rfl; have := kKE_16.f yS; omega))
        have q46 := J28.keep h_q0_16 (by decide) q21
        have := mz_hi v31
        refine mv_if_eqZ (tgt := 38) (a := v31.toInt) d_TrustDeskModel_cond_18 (by decide) rfl (fun b47 => ?_) (fun b47 => ?_)
        · exact mv_vret d_TrustDeskModel_cond_38 rfl ⟨_, I29, rfl, R34, E43, (by have := R34.1 15 _ _ rfl; have := R34.1 16 _ _ rfl; have := R34.1 19 _ _ rfl; have := E43.f yS; omega), (by first | (have := pW0 (Im.o d45) (by omega); have := Z944.wk; have hX := e19.symm.trans (p_lp_stop (show (p_co1 pb pn pa 0 (p_oc pb pn pa 0)) s17 = s17 from if_neg (fun h9 => by omega))); rw [show p_con pb pn pa 0 (p_oc pb pn pa 0) ps = s17 from (by exact hX)]; exact Z944) | (exfalso; have := R34.1 15 _ _ rfl; have := R34.1 16 _ _ rfl; have := R34.1 19 _ _ rfl; have := E43.f yS; omega))⟩
        · refine mv_aload_n d_TrustDeskModel_cond_21 rfl rfl ?_
          obtain ⟨_, b54, -⟩ := I29.1 _ _ t38
          refine mv_callV (kc' := 0) (ks' := 0) (As := []) (st9 := [.ref o0]) d_TrustDeskModel_cond_22 lV_TrustDeskModel_237 b54 rfl (tc_TrustDeskModel_next_x (d := (d + 10)) (x9 := x9) (o0 := o0) t38 R34 Z944.p I29.start) rfl (Nat.le_of_ble_eq_true rfl) (Nat.le_of_ble_eq_true rfl) (Nat.le_of_ble_eq_true rfl) (hst := rfl) (fun b48r M49 n50 b48 => ?_)
          obtain ⟨T51, J52, rfl, R55, f56, f57, f58⟩ := b48
          have I53 := I29.call J52 (tm_sub (by decide)) (Or.inl rfl)
          have t59 := J52.up t38
          have z60 := (rv_c I29 J52 (I29.up h_o0) (k := 19) rfl).trans z41
          have z61 := (rv_c I29 J52 (I29.up h_o0) (k := 22) rfl).trans z42
          have h63 : rv M25 o0 16 + 1 ≤ rv M25 o0 15 := (by have := R34.1 15 _ _ rfl; have := R34.1 16 _ _ rfl; have := R34.1 19 _ _ rfl; have := E43.f yS; omega)
          have E62 : rE M0 M49 o0 1 1 := E43.next f56 f57 (rv_c I29 J52 (I29.up h_o0) (k := 19) rfl) (rE_ha I29 J52 (I29.up h_o0) (by decide)) (e := 1) h63 (by decide)
          obtain ⟨s64, e65⟩ : ∃ s9 : p_S, p_nx s17 = s9 := ⟨_, rfl⟩
          rw [e65] at f58
          have := f58.w
          clear z41 z42
          have q66 := J52.keep t38 (by decide) q46
          refine mv_aload_n d_TrustDeskModel_cond_25 rfl rfl ?_
          obtain ⟨_, b73, -⟩ := I53.1 _ _ t59
          refine mv_callV (kc' := 0) (ks' := 0) (As := []) (st9 := [.ref o0]) d_TrustDeskModel_cond_26 lV_TrustDeskModel_312 b73 rfl (tc_TrustDeskModel_both_q1_x (d := d) (x9 := x9) (o0 := o0) t59 R55 E62.1 (by have := R55.1 15 _ _ rfl; have := R55.1 16 _ _ rfl; have := R55.1 19 _ _ rfl; have := E62.f yS; omega) (by have := R55.1 15 _ _ rfl; have := R55.1 16 _ _ rfl; have := R55.1 19 _ _ rfl; have := E62.f yS; omega) f58 I53.start) rfl (Nat.le_of_ble_eq_true rfl) (Nat.le_of_ble_eq_true rfl) (Nat.le_of_ble_eq_true rfl) (hst := rfl) (fun b67r M68 n69 b67 => ?_)
          obtain ⟨T70, J71, rfl, R74, f75, f76, f77⟩ := b67
          have I72 := I53.call J71 (tm_sub (by decide)) (Or.inl rfl)
          have t78 := J71.up t59
          have E79 : rE M0 M68 o0 2 1 := E62.trans f75 (by decide) (yR.2 5 _ _ rfl 44).1 (by decide) (by decide)
          have := f75.w
          obtain ⟨s80, e81⟩ : ∃ s9 : p_S, p_bot pb pn pa 0 (p_oc pb pn pa 0) s64 = s9 := ⟨_, rfl⟩
          rw [e81] at f77
          have := f77.w
          refine mv_aload_n d_TrustDeskModel_cond_29 rfl rfl ?_
          refine mv_bipush (v := (-8)) d_TrustDeskModel_cond_30 (by decide) ?_
          obtain ⟨_, b88, -⟩ := I72.1 _ _ t78
          have : ((-8) : Int32).toInt = (-8) := by decide
          refine mv_callV (kc' := 0) (ks' := 0) (As := [.int (-8)]) (st9 := [.int (-8), .ref o0]) d_TrustDeskModel_cond_32 lV_TrustDeskModel_279 b88 rfl (tc_TrustDeskModel_emits_x (d := (d + 10)) (x9 := x9) (o0 := o0) (x1 := (-8)) t78 R74 (by have := R74.1 15 _ _ rfl; have := R74.1 16 _ _ rfl; have := R74.1 19 _ _ rfl; have := E79.f yS; omega) (by decide) I72.start) rfl (Nat.le_of_ble_eq_true rfl) (Nat.le_of_ble_eq_true rfl) (Nat.le_of_ble_eq_true rfl) (hst := rfl) (fun b82r M83 n84 b82 => ?_)
          obtain ⟨T85, J86, rfl, R89, f90⟩ := b82
          have I87 := I72.call J86 (tm_sub (by decide)) (Or.inl rfl)
          have t91 := J86.up t78
          have z92 := (rv_c I72 J86 (I72.up h_o0) (k := 16) rfl)
          have z93 := (rv_c I72 J86 (I72.up h_o0) (k := 17) rfl)
          have z94 := (rv_c I72 J86 (I72.up h_o0) (k := 19) rfl)
          have z95 := (rv_c I72 J86 (I72.up h_o0) (k := 22) rfl)
          have E96 : rE M0 M83 o0 1 0 := E79.emit f90 (rE_hv I72 J86 (I72.up h_o0) 15 19 (by decide)) (yR.2 5 _ _ rfl 44).1 (by decide) (Or.inr (Or.inr ⟨by decide, by decide, by decide, by decide⟩)) (by decide)
          have Z997 : pO M83 o0 pb pn pa s80 := f77.same (rE_hv I72 J86 (I72.up h_o0) 14 20 (by decide)) (rv_c I72 J86 (I72.up h_o0) (k := 23) rfl) (ra_call I72 J86 (I72.up h_o0) (k := 13) rfl rfl rfl)
          refine mv_goto (tgt := 4) d_TrustDeskModel_cond_35 (by decide) ?_
          have T98 : ∃ s1 : p_S, pO M83 o0 pb pn pa s1 ∧ p_lp pn (p_co1 pb pn pa 0 (p_oc pb pn pa 0)) s1 = p_con pb pn pa 0 (p_oc pb pn pa 0) ps := ⟨s80, Z997, (by have st : (p_co1 pb pn pa 0 (p_oc pb pn pa 0)) s17 = s80 := (by have := pW1 (Im.o d45) (by omega); have := Z944.wk; rw [show (p_co1 pb pn pa 0 (p_oc pb pn pa 0)) s17 = p_bot pb pn pa 0 (p_oc pb pn pa 0) (p_nx s17) from if_pos ⟨by omega, by omega⟩]; simp only [e65, e81]); rw [← st, p_P.go (p_co1_P (p_oc_M _)) s17]; exact e19)⟩
          exact (ih16 T85 M83 n84 I87 t91 (by have := R89.1 15 _ _ rfl; have := R89.1 16 _ _ rfl; have := R89.1 19 _ _ rfl; have := E96.f yS; first | omega | decide | exact fun h9 => absurd (by decide) h9) R89 E96 T98 (by have := R89.1 15 _ _ rfl; have := R89.1 16 _ _ rfl; have := R89.1 19 _ _ rfl; have := E96.f yS; omega))
  have T99 : ∃ s1 : p_S, pO M2 o0 pb pn pa s1 ∧ p_lp pn (p_co1 pb pn pa 0 (p_oc pb pn pa 0)) s1 = p_con pb pn pa 0 (p_oc pb pn pa 0) ps := ⟨s14, f11, (by rw [← e15]; rfl)⟩
  exact mv_less (Nat.zero_le _) (Nat.zero_le _) (L4_16 4294967296 T4 M2 n3 I6 t12 (by have := R8.1 15 _ _ rfl; have := R8.1 16 _ _ rfl; have := R8.1 19 _ _ rfl; have := E13.f yS; first | omega | decide | exact fun h9 => absurd (by decide) h9) R8 E13 T99 (by have := R8.1 15 _ _ rfl; have := R8.1 16 _ _ rfl; have := R8.1 19 _ _ rfl; have := E13.f yS; omega))
